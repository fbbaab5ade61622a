/-! the law's start -/
section ST
variable {s : State} {b : Nat}
theorem arr_of {cA : ClassId} {kA : Class} {comp : ClassId} {ty : FieldType} (h2 : s.vm.classes[cA]? = some kA) (h3 : kA.kind = .array comp ty) : ArrOfT s cA ty := fun N z => ⟨(fun k h => by cases h), kA, h2, comp, h3⟩
set_option maxRecDepth 100000 in
set_option maxHeartbeats 4000000 in
theorem st_EV (hts : ∀ w ∈ lw_tbl, w.before #[Value.ref b] s = true) (hgv : (Jvm.Cond.and given_1 narrow_1).before #[Value.ref b] s = true) : EV s := by
  have hs := flat_of_before _ hgv
  have s146 : ∃ sa, vk_R "CellPlanner" 146 "an argument is out of its range" sa s := by
    have hx : (Cond.exactly (.string "CellPlanner" 146) "java/lang/String").before #[Value.ref b] s = true := hs _ (by decide +kernel)
    obtain ⟨a, -, -, -, ha, -⟩ := Cond.exactly_spec hx
    exact ⟨a, vk_R.of (hts (.stringRef "CellPlanner" 146 "an argument is out of its range") (List.mem_of_getElem? (i := 318) (by decide +kernel))) ha⟩
  have s57 : ∃ sa, vk_R "CellPlanner" 57 "there are 5 cells" sa s := by
    have hx : (Cond.exactly (.string "CellPlanner" 57) "java/lang/String").before #[Value.ref b] s = true := hs _ (by decide +kernel)
    obtain ⟨a, -, -, -, ha, -⟩ := Cond.exactly_spec hx
    exact ⟨a, vk_R.of (hts (.stringRef "CellPlanner" 57 "there are 5 cells") (List.mem_of_getElem? (i := 354) (by decide +kernel))) ha⟩
  have s151 : ∃ sa, vk_R "CellPlanner" 151 "there is no such cell" sa s := by
    have hx : (Cond.exactly (.string "CellPlanner" 151) "java/lang/String").before #[Value.ref b] s = true := hs _ (by decide +kernel)
    obtain ⟨a, -, -, -, ha, -⟩ := Cond.exactly_spec hx
    exact ⟨a, vk_R.of (hts (.stringRef "CellPlanner" 151 "there is no such cell") (List.mem_of_getElem? (i := 386) (by decide +kernel))) ha⟩
  have s83 : ∃ sa, vk_R "CellPlanner" 83 "there are 6 walkers" sa s := by
    have hx : (Cond.exactly (.string "CellPlanner" 83) "java/lang/String").before #[Value.ref b] s = true := hs _ (by decide +kernel)
    obtain ⟨a, -, -, -, ha, -⟩ := Cond.exactly_spec hx
    exact ⟨a, vk_R.of (hts (.stringRef "CellPlanner" 83 "there are 6 walkers") (List.mem_of_getElem? (i := 415) (by decide +kernel))) ha⟩
  have s154 : ∃ sa, vk_R "CellPlanner" 154 "there is no such walker" sa s := by
    have hx : (Cond.exactly (.string "CellPlanner" 154) "java/lang/String").before #[Value.ref b] s = true := hs _ (by decide +kernel)
    obtain ⟨a, -, -, -, ha, -⟩ := Cond.exactly_spec hx
    exact ⟨a, vk_R.of (hts (.stringRef "CellPlanner" 154 "there is no such walker") (List.mem_of_getElem? (i := 431) (by decide +kernel))) ha⟩
  refine ⟨⟨va_Nw.of rfl (hts (.castable "java/lang/IllegalArgumentException" "java/lang/IllegalArgumentException") (List.mem_of_getElem? (i := 279) (by decide +kernel))), va_Nw.of rfl (hts (.castable "java/lang/IllegalStateException" "java/lang/IllegalStateException") (List.mem_of_getElem? (i := 347) (by decide +kernel))), va_Nw.of rfl (hts (.castable "java/lang/IndexOutOfBoundsException" "java/lang/IndexOutOfBoundsException") (List.mem_of_getElem? (i := 379) (by decide +kernel)))⟩, ⟨va_Nw.of rfl (hts (.declares (Bundle.initS "java/lang/Throwable")) (List.mem_of_getElem? (i := 285) (by decide +kernel))), va_Nw.of rfl (hts (.declares (Bundle.initS "java/lang/Exception")) (List.mem_of_getElem? (i := 283) (by decide +kernel))), va_Nw.of rfl (hts (.declares (Bundle.initS "java/lang/RuntimeException")) (List.mem_of_getElem? (i := 281) (by decide +kernel)))⟩, ⟨va_Nc.of (hs (.not (.castable "java/lang/IllegalStateException" "java/lang/IllegalArgumentException")) (by decide +kernel)), va_Nc.of (hs (.not (.castable "java/lang/IllegalArgumentException" "java/lang/IndexOutOfBoundsException")) (by decide +kernel))⟩, s146, s57, s151, s83, s154⟩
set_option maxRecDepth 100000 in
set_option maxHeartbeats 4000000 in
theorem st_XX (hts : ∀ w ∈ lw_tbl, w.before #[Value.ref b] s = true) (hgv : (Jvm.Cond.and given_1 narrow_1).before #[Value.ref b] s = true) : XX (fun q => s.heap.size ≤ q) s s.heap := by
  have hs := flat_of_before _ hgv
  exact ⟨st_EV hts hgv, vx_Zqof (hts (.laysStatic Bundle.tN "UNASSIGNED_STACK" Bundle.steD) (List.mem_of_getElem? (i := 304) (by decide +kernel))) (hts (.initialized "java/lang/Throwable") (List.mem_of_getElem? (i := 35) (by decide +kernel))) (hs _ (by decide +kernel)) (fun a h q => absurd h (Nat.not_lt.mpr q)), vx_Zqof (hts (.laysStatic Bundle.tN "SUPPRESSED_SENTINEL" Bundle.listD) (List.mem_of_getElem? (i := 306) (by decide +kernel))) (hts (.initialized "java/lang/Throwable") (List.mem_of_getElem? (i := 35) (by decide +kernel))) (hs _ (by decide +kernel)) (fun a h q => absurd h (Nat.not_lt.mpr q))⟩
set_option maxRecDepth 100000 in
set_option maxHeartbeats 4000000 in
theorem st_K (hts : ∀ w ∈ lw_tbl, w.before #[Value.ref b] s = true) : ∃ (D : va_G) (cI cZ cJ : ClassId), va_K D vwCl [(cI, .int), (cZ, .boolean), (cJ, .long)] s ∧ NK cI cZ s ∧ s.vm.findClass ("[" ++ FieldType.long.toString) = some cJ := by
  obtain ⟨c0, i0, k0⟩ := u_known hts inX0 (hts (.instantiable RX0 13) (List.mem_of_getElem? (i := 52) (by decide +kernel)))
  obtain ⟨c1, i1, k1⟩ := u_known hts inX1 (hts (.instantiable RX1 7) (List.mem_of_getElem? (i := 116) (by decide +kernel)))
  obtain ⟨c2, i2, k2⟩ := u_known hts inX2 (hts (.instantiable RX2 13) (List.mem_of_getElem? (i := 44) (by decide +kernel)))
  obtain ⟨c3, i3, k3⟩ := u_known hts inX3 (hts (.instantiable RX3 30) (List.mem_of_getElem? (i := 550) (by decide +kernel)))
  obtain ⟨cI, kI, pI, fI, gI, hI⟩ := Cond.arrayClass_spec (hts (.arrayClass .int) (List.mem_of_getElem? (i := 113) (by decide +kernel)))
  obtain ⟨cZ, kZ, pZ, fZ, gZ, hZ⟩ := Cond.arrayClass_spec (hts (.arrayClass .boolean) (List.mem_of_getElem? (i := 114) (by decide +kernel)))
  obtain ⟨cJ, kJ, pJ, fJ, gJ, hJ⟩ := Cond.arrayClass_spec (hts (.arrayClass .long) (List.mem_of_getElem? (i := 822) (by decide +kernel)))
  refine ⟨(fun n => [c0, c1, c2, c3].getD n c0, fun n => [i0, i1, i2, i3].getD n i0), cI, cZ, cJ, ⟨fun c q hq => ?_, fun k q hq => ?_⟩, ⟨fI, fZ, fI, over_moved (a := #[Value.ref b]) (a' := #[]) (Vm.Alike.refl _) (hts (.arrayOver (.array .int)) (List.mem_of_getElem? (i := 58) (by decide +kernel))), va_Nw.of rfl (hts (.methodLinkNest RX2 9 yX0_init "CellPlanner") (List.mem_of_getElem? (i := 53) (by decide +kernel)))⟩, fJ⟩
  · match c, hq with
    | 0, hq => cases hq; exact k0
    | 1, hq => cases hq; exact k1
    | 2, hq => cases hq; exact k2
    | 3, hq => cases hq; exact k3
    | n + 4, hq => cases hq
  · match k, hq with
    | 0, hq => cases hq; exact ⟨arr_of gI hI, fI⟩
    | 1, hq => cases hq; exact ⟨arr_of gZ hZ, fZ⟩
    | 2, hq => cases hq; exact ⟨arr_of gJ hJ, fJ⟩
    | n + 3, hq => cases hq
end ST
theorem st_fl (l : Launch) (hflags : l.flags = flags0) : l.stackTraces = false := by
  unfold Launch.stackTraces
  rw [hflags]
  decide +kernel
