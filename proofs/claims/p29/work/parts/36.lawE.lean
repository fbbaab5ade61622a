/-! what the law asks behind each act -/
theorem sv_neg {nc : Nat} {x : Int32} (hn : nc < 2 ^ 31) (h : SV nc x) : x < 0 ↔ x = -1 := by
  rcases h with h | ⟨k, hk, h⟩
  · subst h; exact ⟨fun _ => rfl, fun _ => by decide⟩
  · subst h
    exact ⟨fun q => absurd q (nI_pos (by omega)), fun q => absurd q (en_m1 (by omega))⟩
set_option maxHeartbeats 8000000 in
set_option maxRecDepth 100000 in
theorem t_L_tells {l : Launch} (hl0 : l.stackTraces = false) {D : va_G} {cI cZ cJ cG cW : ClassId} {u : Nat → Nat} {nc nw : Nat} {tk ho ri lo mg pt bd : Int32} {cx cy ch rm on wx wy dm sv fv hd lf la : Nat → Int32} {a b d r2 : Nat → Nat} {hp rl cn be : Nat → Int32} {bw : Int32} {wo : Nat → Nat → Int32} {r : Nat → Nat} {mu : Nat → Int32} {qq : Nat → Nat → Int32}  (hJ : JI nc nw cx cy ch rm on wx wy dm sv hd) : CxI l yL_tells wsL_tells 14 600 300 1600 D (T5 cI cZ cJ cG cW) [.ref (d 0), .ref (u 0), .ref (u 1), .ref (u 2)] (wA cI u nc nw tk ho ri lo mg pt bd cx cy ch rm on wx wy dm sv fv hd lf la ++ ((wCo cI a b d mg pt bd tk ho ri lo fv hd lf la ++ wSo cI cW a b r2 hp rl cn be bw wo) ++ wL cI cZ cG a r nc nw cx cy ch rm on wx wy dm sv mu qq)) (fun rv wv => rv = 1 ∧ ST cI cZ cG cW u a b d r r2 wv) (fun Ev => False) := by
  refine cxI_of (cc := cL_tells) (maxL := 10) RL 6 [some (.ref (d 0)), some (.ref (u 0)), some (.ref (u 1)), some (.ref (u 2)), none, none, none, none, none, none] (by decide +kernel) rfl rfl (Nat.le_of_ble_eq_true rfl) rfl (fun p_ e_ s_ m_ as_ bl_ me_ co_ C hret hE hX => ?_)
  have n4 := hJ.n4
  have w4 := hJ.w4
  refine g_bipush C 16 dL_tells_0 (by decide +kernel) ?_
  refine g_newa C (atype := .int) (ty := .int) rfl (C.fI 0 rfl) (C.ts _ (by decide +kernel)) 16 rfl (by decide) (z := (16, .inl (fun _ => 0))) (fun _ => rfl) (by decide) (Nat.le_of_ble_eq_true rfl) (Nat.le_of_ble_eq_true rfl) dL_tells_2 (fun uq => ?_)
  refine g_swap ?_
  refine g_w (ws' := (wQ cI uq (fun _ => 0) ++ (wA cI u nc nw tk ho ri lo mg pt bd cx cy ch rm on wx wy dm sv fv hd lf la ++ ((wCo cI a b d mg pt bd tk ho ri lo fv hd lf la ++ wSo cI cW a b r2 hp rl cn be bw wo) ++ wL cI cZ cG a r nc nw cx cy ch rm on wx wy dm sv mu qq)))) rfl ?_
  refine g_astore C [some (.ref (d 0)), some (.ref (u 0)), some (.ref (u 1)), some (.ref (u 2)), some (.ref uq), none, none, none, none, none] dL_tells_4 (by decide) rfl rfl ?_
  refine g_aload_n C dL_tells_6 rfl ?_
  refine g_aload_n C dL_tells_7 rfl ?_
  refine g_aload_n C dL_tells_8 rfl ?_
  refine g_aload C dL_tells_9 rfl ?_
  refine g_w (ws' := ((wQ cI uq (fun _ => 0) ++ (wA cI u nc nw tk ho ri lo mg pt bd cx cy ch rm on wx wy dm sv fv hd lf la)) ++ ((wCo cI a b d mg pt bd tk ho ri lo fv hd lf la ++ wSo cI cW a b r2 hp rl cn be bw wo) ++ wL cI cZ cG a r nc nw cx cy ch rm on wx wy dm sv mu qq))) (by simp only [List.append_assoc]) ?_
  refine g_swap ?_
  refine g_callSv C ((wCo cI a b d mg pt bd tk ho ri lo fv hd lf la ++ wSo cI cW a b r2 hp rl cn be bw wo) ++ wL cI cZ cG a r nc nw cx cy ch rm on wx wy dm sv mu qq) (wQ cI uq (fun _ => 0) ++ (wA cI u nc nw tk ho ri lo mg pt bd cx cy ch rm on wx wy dm sv fv hd lf la)) [.ref (u 0), .ref (u 1), .ref (u 2), .ref uq] (t_L_qualities n4 w4 hJ.r0 hJ.1.ihg (hJ.gq sv) hJ.onn) (va_cwS 4 C.ts gL_tells_L_qualities rfl rfl rfl (by decide +kernel) ⟨Nat.le_of_ble_eq_true rfl, Nat.le_of_ble_eq_true rfl⟩) rfl rfl rfl (Nat.le_of_ble_eq_true rfl) dL_tells_11 ⟨Nat.le_of_ble_eq_true rfl, Nat.le_of_ble_eq_true rfl⟩ (fun wv1 tv1 hp1 => ?_)
  obtain ⟨⟨qf, hqf, rfl⟩, rfl⟩ := hp1
  refine g_swap ?_
  refine g_w (ws' := (wQ cI uq qf ++ (wA cI u nc nw tk ho ri lo mg pt bd cx cy ch rm on wx wy dm sv fv hd lf la ++ ((wCo cI a b d mg pt bd tk ho ri lo fv hd lf la ++ wSo cI cW a b r2 hp rl cn be bw wo) ++ wL cI cZ cG a r nc nw cx cy ch rm on wx wy dm sv mu qq)))) (by simp only [List.append_assoc]) ?_
  refine g_iconst C 0 dL_tells_14 (by decide +kernel) ?_
  refine g_istore C [some (.ref (d 0)), some (.ref (u 0)), some (.ref (u 1)), some (.ref (u 2)), some (.ref uq), some (.int 0), none, none, none, none] dL_tells_15 (by decide) rfl rfl ?_
  refine g_iconst C 0 dL_tells_17 (by decide +kernel) ?_
  refine g_istore C [some (.ref (d 0)), some (.ref (u 0)), some (.ref (u 1)), some (.ref (u 2)), some (.ref uq), some (.int 0), some (.int 0), none, none, none] dL_tells_18 (by decide) rfl rfl ?_
  refine g_loopk3 0 mu qq (fun (i : Nat) (mv : Nat → Int32) (qv : Nat → Nat → Int32) => i ≤ nc + 1) (fun (i : Nat) (mv : Nat → Int32) (qv : Nat → Nat → Int32) => (wQ cI uq qf ++ (wA cI u nc nw tk ho ri lo mg pt bd cx cy ch rm on wx wy dm sv fv hd lf la ++ ((wCo cI a b d mg pt bd tk ho ri lo fv hd lf la ++ wSo cI cW a b r2 hp rl cn be bw wo) ++ wL cI cZ cG a r nc nw cx cy ch rm on wx wy dm sv mv qv)))) (fun (i : Nat) (mv : Nat → Int32) (qv : Nat → Nat → Int32) => [some (.ref (d 0)), some (.ref (u 0)), some (.ref (u 1)), some (.ref (u 2)), some (.ref uq), some (.int 0), some (.int (nI i)), none, none, none]) (fun (i : Nat) (mv : Nat → Int32) (qv : Nat → Nat → Int32) => 1 + i * 44) (fun (i : Nat) (mv : Nat → Int32) (qv : Nat → Nat → Int32) => 16 + i * 264) (fun (i : Nat) (mv : Nat → Int32) (qv : Nat → Nat → Int32) => nc + 1 - i) (Nat.zero_le _) rfl rfl (by omega) (by omega) (fun i mv qv hI ih => ?_)
  have h1 := hI
  refine g_iload C dL_tells_20 rfl ?_
  refine g_aload_n C dL_tells_22 rfl ?_
  refine g_iconst C 0 dL_tells_23 (by decide +kernel) ?_
  refine g_iald C 1 0 rfl rfl 0 rfl (by omega) (by decide) (nI nc) rfl dL_tells_24 ?_
  refine g_icmp_gt C 220 dL_tells_25 (by decide) (fun c_25 => ?_) (fun c_25 => ?_)
  · skip
    have c_25 : nc < i := (nI_ltI (by omega) (by omega)).mp c_25
    refine g_iconst C 0 dL_tells_220 (by decide +kernel) ?_
    refine g_istore C [some (.ref (d 0)), some (.ref (u 0)), some (.ref (u 1)), some (.ref (u 2)), some (.ref uq), some (.int 0), some (.int 0), none, none, none] dL_tells_221 (by decide) rfl rfl ?_
    refine g_loopk2 0 0 (fun (i : Nat) (x : Int32) => i ≤ nw + 1 ∧ x = fun0 sv (min i nw)) (fun (i : Nat) (x : Int32) => (wQ cI uq qf ++ (wA cI u nc nw tk ho ri lo mg pt bd cx cy ch rm on wx wy dm sv fv hd lf la ++ ((wCo cI a b d mg pt bd tk ho ri lo fv hd lf la ++ wSo cI cW a b r2 hp rl cn be bw wo) ++ wL cI cZ cG a r nc nw cx cy ch rm on wx wy dm sv mv qv)))) (fun (i : Nat) (x : Int32) => [some (.ref (d 0)), some (.ref (u 0)), some (.ref (u 1)), some (.ref (u 2)), some (.ref uq), some (.int x), some (.int (nI i)), none, none, none]) (fun (i : Nat) (x : Int32) => 221 + i * 6) (fun (i : Nat) (x : Int32) => 1336 + i * 36) (fun (i : Nat) (x : Int32) => nw + 1 - i) ⟨Nat.zero_le _, by rw [Nat.zero_min]; rfl⟩ rfl rfl (by omega) (by omega) (fun i x hI ih => ?_)
    obtain ⟨h1, h2⟩ := hI
    have hki : (nI i).toNatClampNeg = i := nI_clamp (by omega)
    refine g_iload C dL_tells_223 rfl ?_
    refine g_aload_n C dL_tells_225 rfl ?_
    refine g_iconst C 1 dL_tells_226 (by decide +kernel) ?_
    refine g_iald C 1 0 rfl rfl 1 rfl (by omega) (by decide) (nI nw) rfl dL_tells_227 ?_
    refine g_icmp_gt C 367 dL_tells_228 (by decide) (fun c_228 => ?_) (fun c_228 => ?_)
    · skip
      have c_228 : nw < i := (nI_ltI (by omega) (by omega)).mp c_228
      refine g_aload_n C dL_tells_367 rfl ?_
      refine g_callVi C (wQ cI uq qf ++ (wA cI u nc nw tk ho ri lo mg pt bd cx cy ch rm on wx wy dm sv fv hd lf la)) ((wCo cI a b d mg pt bd tk ho ri lo fv hd lf la ++ wSo cI cW a b r2 hp rl cn be bw wo) ++ wL cI cZ cG a r nc nw cx cy ch rm on wx wy dm sv mv qv) [] (t_X2_unserved (by omega)) rfl rfl (cwV 0 C.ts gL_tells_X2_unserved rfl rfl rfl (by decide +kernel) ⟨Nat.le_of_ble_eq_true rfl, Nat.le_of_ble_eq_true rfl⟩) rfl (by simp only [List.append_assoc]) rfl (Nat.le_of_ble_eq_true rfl) dL_tells_368 (rmL (by omega) (by omega)) (fun rv2 wv2 hp2 => ?_)
      obtain ⟨rfl, rfl⟩ := hp2
      refine g_w (ws' := (wQ cI uq qf ++ (wA cI u nc nw tk ho ri lo mg pt bd cx cy ch rm on wx wy dm sv fv hd lf la ++ ((wCo cI a b d mg pt bd tk ho ri lo fv hd lf la ++ wSo cI cW a b r2 hp rl cn be bw wo) ++ wL cI cZ cG a r nc nw cx cy ch rm on wx wy dm sv mv qv)))) (by simp only [List.append_assoc]) ?_
      refine g_iload C dL_tells_371 rfl ?_
      refine g_icmp_ne C 440 dL_tells_373 (by decide) (fun c9 => absurd (by rw [h2, show min i nw = nw by omega]) c9) (fun _ => ?_)
      refine g_aload_n C dL_tells_376 rfl ?_
      refine g_callVi C (wQ cI uq qf ++ (wA cI u nc nw tk ho ri lo mg pt bd cx cy ch rm on wx wy dm sv fv hd lf la)) ((wCo cI a b d mg pt bd tk ho ri lo fv hd lf la ++ wSo cI cW a b r2 hp rl cn be bw wo) ++ wL cI cZ cG a r nc nw cx cy ch rm on wx wy dm sv mv qv) [] t_X2_ticks rfl rfl (cwV 0 C.ts gL_tells_X2_ticks rfl rfl rfl (by decide +kernel) ⟨Nat.le_of_ble_eq_true rfl, Nat.le_of_ble_eq_true rfl⟩) rfl (by simp only [List.append_assoc]) rfl (Nat.le_of_ble_eq_true rfl) dL_tells_377 (rmL (by omega) (by omega)) (fun rv3 wv3 hp3 => ?_)
      obtain ⟨hr3, rfl⟩ := hp3
      have hr3 := hr3.symm
      subst hr3
      refine g_w (ws' := (wQ cI uq qf ++ (wA cI u nc nw tk ho ri lo mg pt bd cx cy ch rm on wx wy dm sv fv hd lf la ++ ((wCo cI a b d mg pt bd tk ho ri lo fv hd lf la ++ wSo cI cW a b r2 hp rl cn be bw wo) ++ wL cI cZ cG a r nc nw cx cy ch rm on wx wy dm sv mv qv)))) (by simp only [List.append_assoc]) ?_
      refine g_aload_n C dL_tells_380 rfl ?_
      refine g_iconst C 2 dL_tells_381 (by decide +kernel) ?_
      refine g_iald C 1 0 rfl rfl 2 rfl (by omega) (by decide) tk rfl dL_tells_382 ?_
      refine g_icmp_ne C 440 dL_tells_383 (by decide) (fun c9 => absurd rfl c9) (fun _ => ?_)
      refine g_aload_n C dL_tells_386 rfl ?_
      refine g_callVi C (wQ cI uq qf ++ (wA cI u nc nw tk ho ri lo mg pt bd cx cy ch rm on wx wy dm sv fv hd lf la)) ((wCo cI a b d mg pt bd tk ho ri lo fv hd lf la ++ wSo cI cW a b r2 hp rl cn be bw wo) ++ wL cI cZ cG a r nc nw cx cy ch rm on wx wy dm sv mv qv) [] t_X2_handovers rfl rfl (cwV 0 C.ts gL_tells_X2_handovers rfl rfl rfl (by decide +kernel) ⟨Nat.le_of_ble_eq_true rfl, Nat.le_of_ble_eq_true rfl⟩) rfl (by simp only [List.append_assoc]) rfl (Nat.le_of_ble_eq_true rfl) dL_tells_387 (rmL (by omega) (by omega)) (fun rv4 wv4 hp4 => ?_)
      obtain ⟨hr4, rfl⟩ := hp4
      have hr4 := hr4.symm
      subst hr4
      refine g_w (ws' := (wQ cI uq qf ++ (wA cI u nc nw tk ho ri lo mg pt bd cx cy ch rm on wx wy dm sv fv hd lf la ++ ((wCo cI a b d mg pt bd tk ho ri lo fv hd lf la ++ wSo cI cW a b r2 hp rl cn be bw wo) ++ wL cI cZ cG a r nc nw cx cy ch rm on wx wy dm sv mv qv)))) (by simp only [List.append_assoc]) ?_
      refine g_aload_n C dL_tells_390 rfl ?_
      refine g_iconst C 3 dL_tells_391 (by decide +kernel) ?_
      refine g_iald C 1 0 rfl rfl 3 rfl (by omega) (by decide) ho rfl dL_tells_392 ?_
      refine g_icmp_ne C 440 dL_tells_393 (by decide) (fun c9 => absurd rfl c9) (fun _ => ?_)
      refine g_aload_n C dL_tells_396 rfl ?_
      refine g_callVi C (wQ cI uq qf ++ (wA cI u nc nw tk ho ri lo mg pt bd cx cy ch rm on wx wy dm sv fv hd lf la)) ((wCo cI a b d mg pt bd tk ho ri lo fv hd lf la ++ wSo cI cW a b r2 hp rl cn be bw wo) ++ wL cI cZ cG a r nc nw cx cy ch rm on wx wy dm sv mv qv) [] t_X2_rings rfl rfl (cwV 0 C.ts gL_tells_X2_rings rfl rfl rfl (by decide +kernel) ⟨Nat.le_of_ble_eq_true rfl, Nat.le_of_ble_eq_true rfl⟩) rfl (by simp only [List.append_assoc]) rfl (Nat.le_of_ble_eq_true rfl) dL_tells_397 (rmL (by omega) (by omega)) (fun rv5 wv5 hp5 => ?_)
      obtain ⟨hr5, rfl⟩ := hp5
      have hr5 := hr5.symm
      subst hr5
      refine g_w (ws' := (wQ cI uq qf ++ (wA cI u nc nw tk ho ri lo mg pt bd cx cy ch rm on wx wy dm sv fv hd lf la ++ ((wCo cI a b d mg pt bd tk ho ri lo fv hd lf la ++ wSo cI cW a b r2 hp rl cn be bw wo) ++ wL cI cZ cG a r nc nw cx cy ch rm on wx wy dm sv mv qv)))) (by simp only [List.append_assoc]) ?_
      refine g_aload_n C dL_tells_400 rfl ?_
      refine g_iconst C 4 dL_tells_401 (by decide +kernel) ?_
      refine g_iald C 1 0 rfl rfl 4 rfl (by omega) (by decide) ri rfl dL_tells_402 ?_
      refine g_icmp_ne C 440 dL_tells_403 (by decide) (fun c9 => absurd rfl c9) (fun _ => ?_)
      refine g_aload_n C dL_tells_406 rfl ?_
      refine g_callVi C (wQ cI uq qf ++ (wA cI u nc nw tk ho ri lo mg pt bd cx cy ch rm on wx wy dm sv fv hd lf la)) ((wCo cI a b d mg pt bd tk ho ri lo fv hd lf la ++ wSo cI cW a b r2 hp rl cn be bw wo) ++ wL cI cZ cG a r nc nw cx cy ch rm on wx wy dm sv mv qv) [] t_X2_losses rfl rfl (cwV 0 C.ts gL_tells_X2_losses rfl rfl rfl (by decide +kernel) ⟨Nat.le_of_ble_eq_true rfl, Nat.le_of_ble_eq_true rfl⟩) rfl (by simp only [List.append_assoc]) rfl (Nat.le_of_ble_eq_true rfl) dL_tells_407 (rmL (by omega) (by omega)) (fun rv6 wv6 hp6 => ?_)
      obtain ⟨hr6, rfl⟩ := hp6
      have hr6 := hr6.symm
      subst hr6
      refine g_w (ws' := (wQ cI uq qf ++ (wA cI u nc nw tk ho ri lo mg pt bd cx cy ch rm on wx wy dm sv fv hd lf la ++ ((wCo cI a b d mg pt bd tk ho ri lo fv hd lf la ++ wSo cI cW a b r2 hp rl cn be bw wo) ++ wL cI cZ cG a r nc nw cx cy ch rm on wx wy dm sv mv qv)))) (by simp only [List.append_assoc]) ?_
      refine g_aload_n C dL_tells_410 rfl ?_
      refine g_iconst C 5 dL_tells_411 (by decide +kernel) ?_
      refine g_iald C 1 0 rfl rfl 5 rfl (by omega) (by decide) lo rfl dL_tells_412 ?_
      refine g_icmp_ne C 440 dL_tells_413 (by decide) (fun c9 => absurd rfl c9) (fun _ => ?_)
      refine g_aload_n C dL_tells_416 rfl ?_
      refine g_callVi C (wQ cI uq qf ++ (wA cI u nc nw tk ho ri lo mg pt bd cx cy ch rm on wx wy dm sv fv hd lf la)) ((wCo cI a b d mg pt bd tk ho ri lo fv hd lf la ++ wSo cI cW a b r2 hp rl cn be bw wo) ++ wL cI cZ cG a r nc nw cx cy ch rm on wx wy dm sv mv qv) [] t_X2_cells rfl rfl (cwV 0 C.ts gL_tells_X2_cells rfl rfl rfl (by decide +kernel) ⟨Nat.le_of_ble_eq_true rfl, Nat.le_of_ble_eq_true rfl⟩) rfl (by simp only [List.append_assoc]) rfl (Nat.le_of_ble_eq_true rfl) dL_tells_417 (rmL (by omega) (by omega)) (fun rv7 wv7 hp7 => ?_)
      obtain ⟨rfl, rfl⟩ := hp7
      refine g_w (ws' := (wQ cI uq qf ++ (wA cI u nc nw tk ho ri lo mg pt bd cx cy ch rm on wx wy dm sv fv hd lf la ++ ((wCo cI a b d mg pt bd tk ho ri lo fv hd lf la ++ wSo cI cW a b r2 hp rl cn be bw wo) ++ wL cI cZ cG a r nc nw cx cy ch rm on wx wy dm sv mv qv)))) (by simp only [List.append_assoc]) ?_
      refine g_aload_n C dL_tells_420 rfl ?_
      refine g_iconst C 0 dL_tells_421 (by decide +kernel) ?_
      refine g_iald C 1 0 rfl rfl 0 rfl (by omega) (by decide) (nI nc) rfl dL_tells_422 ?_
      refine g_icmp_ne C 440 dL_tells_423 (by decide) (fun c9 => absurd rfl c9) (fun _ => ?_)
      refine g_aload_n C dL_tells_426 rfl ?_
      refine g_callVi C (wQ cI uq qf ++ (wA cI u nc nw tk ho ri lo mg pt bd cx cy ch rm on wx wy dm sv fv hd lf la)) ((wCo cI a b d mg pt bd tk ho ri lo fv hd lf la ++ wSo cI cW a b r2 hp rl cn be bw wo) ++ wL cI cZ cG a r nc nw cx cy ch rm on wx wy dm sv mv qv) [] t_X2_walkers rfl rfl (cwV 0 C.ts gL_tells_X2_walkers rfl rfl rfl (by decide +kernel) ⟨Nat.le_of_ble_eq_true rfl, Nat.le_of_ble_eq_true rfl⟩) rfl (by simp only [List.append_assoc]) rfl (Nat.le_of_ble_eq_true rfl) dL_tells_427 (rmL (by omega) (by omega)) (fun rv8 wv8 hp8 => ?_)
      obtain ⟨rfl, rfl⟩ := hp8
      refine g_w (ws' := (wQ cI uq qf ++ (wA cI u nc nw tk ho ri lo mg pt bd cx cy ch rm on wx wy dm sv fv hd lf la ++ ((wCo cI a b d mg pt bd tk ho ri lo fv hd lf la ++ wSo cI cW a b r2 hp rl cn be bw wo) ++ wL cI cZ cG a r nc nw cx cy ch rm on wx wy dm sv mv qv)))) (by simp only [List.append_assoc]) ?_
      refine g_aload_n C dL_tells_430 rfl ?_
      refine g_iconst C 1 dL_tells_431 (by decide +kernel) ?_
      refine g_iald C 1 0 rfl rfl 1 rfl (by omega) (by decide) (nI nw) rfl dL_tells_432 ?_
      refine g_icmp_ne C 440 dL_tells_433 (by decide) (fun c9 => absurd rfl c9) (fun _ => ?_)
      refine g_iconst C 1 dL_tells_436 (by decide +kernel) ?_
      refine g_goto C 441 dL_tells_437 (by decide) ?_
      refine g_drop ?_
      exact gx_I (g_zret C hret (by decide +kernel) dL_tells_441 (by omega) (by omega) ⟨rfl, ST_mk hJ⟩)
    · skip
      have c_228 : ¬ (nw < i) := fun h9 => c_228 ((nI_ltI (by omega) (by omega)).mpr h9)
      refine g_iload C dL_tells_231 rfl ?_
      refine g_aload_n C dL_tells_233 rfl ?_
      refine g_iconst C 1 dL_tells_234 (by decide +kernel) ?_
      refine g_iald C 1 0 rfl rfl 1 rfl (by omega) (by decide) (nI nw) rfl dL_tells_235 ?_
      refine g_icmp_ge C 243 dL_tells_236 (by decide) (fun c_236 => ?_) (fun c_236 => ?_)
      · skip
        have c_236 : nw ≤ i := (nI_leI (by omega) (by omega)).mp c_236
        have hni : ¬ IC nw (nI i) := IC_no2 (by omega) (nI_nlt c_236 (by omega))
        refine g_iconst C 0 dL_tells_243 (by decide +kernel) ?_
        refine g_istore C [some (.ref (d 0)), some (.ref (u 0)), some (.ref (u 1)), some (.ref (u 2)), some (.ref uq), some (.int x), some (.int (nI i)), some (.int 0), none, none] dL_tells_244 (by decide) rfl rfl ?_
        refine g_iload C dL_tells_246 rfl ?_
        refine g_iload C dL_tells_248 rfl ?_
        refine g_if_eq C 270 dL_tells_250 (by decide) (fun _ => ?_) (fun c9 => absurd rfl c9)
        refine g_iconst C 0 dL_tells_270 (by decide +kernel) ?_
        refine g_ior C x dL_tells_271 (Int32.or_zero) ?_
        refine g_istore C [some (.ref (d 0)), some (.ref (u 0)), some (.ref (u 1)), some (.ref (u 2)), some (.ref uq), some (.int x), some (.int (nI i)), some (.int 0), none, none] dL_tells_272 (by decide) rfl rfl ?_
        refine g_aload_n C dL_tells_274 rfl ?_
        refine g_iconst C 4 dL_tells_275 (by decide +kernel) ?_
        refine g_iload C dL_tells_276 rfl ?_
        refine g_iconst C 0 dL_tells_278 (by decide +kernel) ?_
        refine gx_callH C hX (wQ cI uq qf ++ (wA cI u nc nw tk ho ri lo mg pt bd cx cy ch rm on wx wy dm sv fv hd lf la)) ((wCo cI a b d mg pt bd tk ho ri lo fv hd lf la ++ wSo cI cW a b r2 hp rl cn be bw wo) ++ wL cI cZ cG a r nc nw cx cy ch rm on wx wy dm sv mv qv) [.ref (d 0), .int 4, .int (nI i), .int 0] (t_L_of_4 hl0 (by omega) (by omega)) (vx_cwSW 4 C.ts gL_tells_L_of rfl rfl rfl (by decide +kernel) ⟨Nat.le_of_ble_eq_true rfl, Nat.le_of_ble_eq_true rfl⟩) rfl (by simp only [List.append_assoc]) rfl (Nat.le_of_ble_eq_true rfl) dL_tells_279 (rmL (by omega) (by omega)) (fun rv9 wv9 hp9 => ?_)
        obtain ⟨rfl, rfl⟩ : rv9 = -101 ∧ wv9 = ((wCo cI a b d mg pt bd tk ho ri lo fv hd lf la ++ wSo cI cW a b r2 hp rl cn be bw wo) ++ wL cI cZ cG a r nc nw cx cy ch rm on wx wy dm sv mv qv) := by
          rcases hp9 with ⟨_, hb, _⟩ | ⟨h1, _, h2⟩
          · exact absurd hb hni
          · exact ⟨h1, h2⟩
        refine g_w (ws' := (wQ cI uq qf ++ (wA cI u nc nw tk ho ri lo mg pt bd cx cy ch rm on wx wy dm sv fv hd lf la ++ ((wCo cI a b d mg pt bd tk ho ri lo fv hd lf la ++ wSo cI cW a b r2 hp rl cn be bw wo) ++ wL cI cZ cG a r nc nw cx cy ch rm on wx wy dm sv mv qv)))) (by simp only [List.append_assoc]) ?_
        refine g_iload C dL_tells_282 rfl ?_
        refine g_if_eq C 297 dL_tells_284 (by decide) (fun _ => ?_) (fun c9 => absurd rfl c9)
        refine g_bipush C (-101) dL_tells_297 (by decide +kernel) ?_
        refine g_icmp_ne C 359 dL_tells_299 (by decide) (fun c9 => absurd rfl c9) (fun _ => ?_)
        refine g_aload_n C dL_tells_302 rfl ?_
        refine g_iconst C 5 dL_tells_303 (by decide +kernel) ?_
        refine g_iload C dL_tells_304 rfl ?_
        refine g_iconst C 0 dL_tells_306 (by decide +kernel) ?_
        refine gx_callH C hX (wQ cI uq qf ++ (wA cI u nc nw tk ho ri lo mg pt bd cx cy ch rm on wx wy dm sv fv hd lf la)) ((wCo cI a b d mg pt bd tk ho ri lo fv hd lf la ++ wSo cI cW a b r2 hp rl cn be bw wo) ++ wL cI cZ cG a r nc nw cx cy ch rm on wx wy dm sv mv qv) [.ref (d 0), .int 5, .int (nI i), .int 0] (t_L_of_5 hl0 (by omega) (by omega)) (vx_cwSW 4 C.ts gL_tells_L_of rfl rfl rfl (by decide +kernel) ⟨Nat.le_of_ble_eq_true rfl, Nat.le_of_ble_eq_true rfl⟩) rfl (by simp only [List.append_assoc]) rfl (Nat.le_of_ble_eq_true rfl) dL_tells_307 (rmL (by omega) (by omega)) (fun rv10 wv10 hp10 => ?_)
        obtain ⟨rfl, rfl⟩ : rv10 = -101 ∧ wv10 = ((wCo cI a b d mg pt bd tk ho ri lo fv hd lf la ++ wSo cI cW a b r2 hp rl cn be bw wo) ++ wL cI cZ cG a r nc nw cx cy ch rm on wx wy dm sv mv qv) := by
          rcases hp10 with ⟨_, hb, _⟩ | ⟨h1, _, h2⟩
          · exact absurd hb hni
          · exact ⟨h1, h2⟩
        refine g_w (ws' := (wQ cI uq qf ++ (wA cI u nc nw tk ho ri lo mg pt bd cx cy ch rm on wx wy dm sv fv hd lf la ++ ((wCo cI a b d mg pt bd tk ho ri lo fv hd lf la ++ wSo cI cW a b r2 hp rl cn be bw wo) ++ wL cI cZ cG a r nc nw cx cy ch rm on wx wy dm sv mv qv)))) (by simp only [List.append_assoc]) ?_
        refine g_iload C dL_tells_310 rfl ?_
        refine g_if_eq C 325 dL_tells_312 (by decide) (fun _ => ?_) (fun c9 => absurd rfl c9)
        refine g_bipush C (-101) dL_tells_325 (by decide +kernel) ?_
        refine g_icmp_ne C 359 dL_tells_327 (by decide) (fun c9 => absurd rfl c9) (fun _ => ?_)
        refine g_aload_n C dL_tells_330 rfl ?_
        refine g_bipush C 6 dL_tells_331 (by decide +kernel) ?_
        refine g_iload C dL_tells_333 rfl ?_
        refine g_iconst C 0 dL_tells_335 (by decide +kernel) ?_
        refine gx_callH C hX (wQ cI uq qf ++ (wA cI u nc nw tk ho ri lo mg pt bd cx cy ch rm on wx wy dm sv fv hd lf la)) ((wCo cI a b d mg pt bd tk ho ri lo fv hd lf la ++ wSo cI cW a b r2 hp rl cn be bw wo) ++ wL cI cZ cG a r nc nw cx cy ch rm on wx wy dm sv mv qv) [.ref (d 0), .int 6, .int (nI i), .int 0] (t_L_of_6 hl0 (by omega) (by omega)) (vx_cwSW 4 C.ts gL_tells_L_of rfl rfl rfl (by decide +kernel) ⟨Nat.le_of_ble_eq_true rfl, Nat.le_of_ble_eq_true rfl⟩) rfl (by simp only [List.append_assoc]) rfl (Nat.le_of_ble_eq_true rfl) dL_tells_336 (rmL (by omega) (by omega)) (fun rv11 wv11 hp11 => ?_)
        obtain ⟨rfl, rfl⟩ : rv11 = -101 ∧ wv11 = ((wCo cI a b d mg pt bd tk ho ri lo fv hd lf la ++ wSo cI cW a b r2 hp rl cn be bw wo) ++ wL cI cZ cG a r nc nw cx cy ch rm on wx wy dm sv mv qv) := by
          rcases hp11 with ⟨_, hb, _⟩ | ⟨h1, _, h2⟩
          · exact absurd hb hni
          · exact ⟨h1, h2⟩
        refine g_w (ws' := (wQ cI uq qf ++ (wA cI u nc nw tk ho ri lo mg pt bd cx cy ch rm on wx wy dm sv fv hd lf la ++ ((wCo cI a b d mg pt bd tk ho ri lo fv hd lf la ++ wSo cI cW a b r2 hp rl cn be bw wo) ++ wL cI cZ cG a r nc nw cx cy ch rm on wx wy dm sv mv qv)))) (by simp only [List.append_assoc]) ?_
        refine g_iload C dL_tells_339 rfl ?_
        refine g_if_eq C 354 dL_tells_341 (by decide) (fun _ => ?_) (fun c9 => absurd rfl c9)
        refine g_bipush C (-101) dL_tells_354 (by decide +kernel) ?_
        refine g_icmp_eq C 361 dL_tells_356 (by decide) (fun _ => ?_) (fun c9 => absurd rfl c9)
        refine g_iinc C (nI (i + 1)) [some (.ref (d 0)), some (.ref (u 0)), some (.ref (u 1)), some (.ref (u 2)), some (.ref uq), some (.int x), some (.int (nI (i + 1))), some (.int 0), none, none] dL_tells_361 rfl (nI_1 i) (by decide) rfl rfl ?_
        refine g_goto C 223 dL_tells_364 (by decide) ?_
        refine g_mask [true, true, true, true, true, true, true, false, false, false] rfl ?_
        refine g_widen (k' := 221 + (i + 1) * 6) (n' := 1336 + (i + 1) * 36) (by omega) (by omega) ?_
        exact ih (i + 1) x ⟨by omega, by rw [h2, show min (i + 1) nw = min i nw by omega]⟩ (by omega)
      · skip
        have c_236 : ¬ (nw ≤ i) := fun h9 => c_236 ((nI_leI (by omega) (by omega)).mpr h9)
        have hi : i < nw := by omega
        have e9 : x = fun0 sv i := by rw [h2, Nat.min_eq_left (by omega)]
        refine g_iconst C 1 dL_tells_239 (by decide +kernel) ?_
        refine g_goto C 244 dL_tells_240 (by decide) ?_
        refine g_istore C [some (.ref (d 0)), some (.ref (u 0)), some (.ref (u 1)), some (.ref (u 2)), some (.ref uq), some (.int x), some (.int (nI i)), some (.int 1), none, none] dL_tells_244 (by decide) rfl rfl ?_
        refine g_iload C dL_tells_246 rfl ?_
        refine g_iload C dL_tells_248 rfl ?_
        refine g_if_eq C 270 dL_tells_250 (by decide) (fun c9 => absurd c9 (by decide)) (fun _ => ?_)
        refine g_aload_n C dL_tells_253 rfl ?_
        refine g_bipush C 12 dL_tells_254 (by decide +kernel) ?_
        refine g_iload C dL_tells_256 rfl ?_
        refine g_iadd C (nI (12 + i)) dL_tells_258 (nI_k 12 i _ rfl) ?_
        refine g_iald C 3 0 rfl rfl (12 + i) rfl (by omega) (by decide) (sv i) (hA_3 (by omega)) dL_tells_259 ?_
        refine g_if_ge C 270 dL_tells_260 (by decide) (fun c_260 => ?_) (fun c_260 => ?_)
        · skip
          have hm : ¬ sv i = -1 := fun q => absurd ((sv_neg (by omega) (hJ.svv i hi)).mpr q) (Int32.not_lt.mpr c_260)
          refine g_iconst C 0 dL_tells_270 (by decide +kernel) ?_
          refine g_ior C x dL_tells_271 (Int32.or_zero) ?_
          refine g_istore C [some (.ref (d 0)), some (.ref (u 0)), some (.ref (u 1)), some (.ref (u 2)), some (.ref uq), some (.int x), some (.int (nI i)), some (.int 1), none, none] dL_tells_272 (by decide) rfl rfl ?_
          refine g_aload_n C dL_tells_274 rfl ?_
          refine g_iconst C 4 dL_tells_275 (by decide +kernel) ?_
          refine g_iload C dL_tells_276 rfl ?_
          refine g_iconst C 0 dL_tells_278 (by decide +kernel) ?_
          refine gx_callH C hX (wQ cI uq qf ++ (wA cI u nc nw tk ho ri lo mg pt bd cx cy ch rm on wx wy dm sv fv hd lf la)) ((wCo cI a b d mg pt bd tk ho ri lo fv hd lf la ++ wSo cI cW a b r2 hp rl cn be bw wo) ++ wL cI cZ cG a r nc nw cx cy ch rm on wx wy dm sv mv qv) [.ref (d 0), .int 4, .int (nI i), .int 0] (t_L_of_4 hl0 (by omega) (by omega)) (vx_cwSW 4 C.ts gL_tells_L_of rfl rfl rfl (by decide +kernel) ⟨Nat.le_of_ble_eq_true rfl, Nat.le_of_ble_eq_true rfl⟩) rfl (by simp only [List.append_assoc]) rfl (Nat.le_of_ble_eq_true rfl) dL_tells_279 (rmL (by omega) (by omega)) (fun rv12 wv12 hp12 => ?_)
          obtain ⟨rfl, rfl⟩ : rv12 = sv i ∧ wv12 = ((wCo cI a b d mg pt bd tk ho ri lo fv hd lf la ++ wSo cI cW a b r2 hp rl cn be bw wo) ++ wL cI cZ cG a r nc nw cx cy ch rm on wx wy dm sv mv qv) := by
            rcases hp12 with ⟨h1, _, h2⟩ | ⟨_, hb, _⟩
            · skip
              rw [hki] at h1
              exact ⟨h1, h2⟩
            · exact absurd ⟨i, hi, rfl⟩ hb
          refine g_w (ws' := (wQ cI uq qf ++ (wA cI u nc nw tk ho ri lo mg pt bd cx cy ch rm on wx wy dm sv fv hd lf la ++ ((wCo cI a b d mg pt bd tk ho ri lo fv hd lf la ++ wSo cI cW a b r2 hp rl cn be bw wo) ++ wL cI cZ cG a r nc nw cx cy ch rm on wx wy dm sv mv qv)))) (by simp only [List.append_assoc]) ?_
          refine g_iload C dL_tells_282 rfl ?_
          refine g_if_eq C 297 dL_tells_284 (by decide) (fun c9 => absurd c9 (by decide)) (fun _ => ?_)
          refine g_aload_n C dL_tells_287 rfl ?_
          refine g_bipush C 12 dL_tells_288 (by decide +kernel) ?_
          refine g_iload C dL_tells_290 rfl ?_
          refine g_iadd C (nI (12 + i)) dL_tells_292 (nI_k 12 i _ rfl) ?_
          refine g_iald C 3 0 rfl rfl (12 + i) rfl (by omega) (by decide) (sv i) (hA_3 (by omega)) dL_tells_293 ?_
          refine g_goto C 299 dL_tells_294 (by decide) ?_
          refine g_icmp_ne C 359 dL_tells_299 (by decide) (fun c9 => absurd rfl c9) (fun _ => ?_)
          refine g_aload_n C dL_tells_302 rfl ?_
          refine g_iconst C 5 dL_tells_303 (by decide +kernel) ?_
          refine g_iload C dL_tells_304 rfl ?_
          refine g_iconst C 0 dL_tells_306 (by decide +kernel) ?_
          refine gx_callH C hX (wQ cI uq qf ++ (wA cI u nc nw tk ho ri lo mg pt bd cx cy ch rm on wx wy dm sv fv hd lf la)) ((wCo cI a b d mg pt bd tk ho ri lo fv hd lf la ++ wSo cI cW a b r2 hp rl cn be bw wo) ++ wL cI cZ cG a r nc nw cx cy ch rm on wx wy dm sv mv qv) [.ref (d 0), .int 5, .int (nI i), .int 0] (t_L_of_5 hl0 (by omega) (by omega)) (vx_cwSW 4 C.ts gL_tells_L_of rfl rfl rfl (by decide +kernel) ⟨Nat.le_of_ble_eq_true rfl, Nat.le_of_ble_eq_true rfl⟩) rfl (by simp only [List.append_assoc]) rfl (Nat.le_of_ble_eq_true rfl) dL_tells_307 (rmL (by omega) (by omega)) (fun rv13 wv13 hp13 => ?_)
          obtain ⟨rfl, rfl⟩ : rv13 = fv i ∧ wv13 = ((wCo cI a b d mg pt bd tk ho ri lo fv hd lf la ++ wSo cI cW a b r2 hp rl cn be bw wo) ++ wL cI cZ cG a r nc nw cx cy ch rm on wx wy dm sv mv qv) := by
            rcases hp13 with ⟨h1, _, h2⟩ | ⟨_, hb, _⟩
            · skip
              rw [hki] at h1
              exact ⟨h1, h2⟩
            · exact absurd ⟨i, hi, rfl⟩ hb
          refine g_w (ws' := (wQ cI uq qf ++ (wA cI u nc nw tk ho ri lo mg pt bd cx cy ch rm on wx wy dm sv fv hd lf la ++ ((wCo cI a b d mg pt bd tk ho ri lo fv hd lf la ++ wSo cI cW a b r2 hp rl cn be bw wo) ++ wL cI cZ cG a r nc nw cx cy ch rm on wx wy dm sv mv qv)))) (by simp only [List.append_assoc]) ?_
          refine g_iload C dL_tells_310 rfl ?_
          refine g_if_eq C 325 dL_tells_312 (by decide) (fun c9 => absurd c9 (by decide)) (fun _ => ?_)
          refine g_aload_n C dL_tells_315 rfl ?_
          refine g_bipush C 16 dL_tells_316 (by decide +kernel) ?_
          refine g_iload C dL_tells_318 rfl ?_
          refine g_iadd C (nI (16 + i)) dL_tells_320 (nI_k 16 i _ rfl) ?_
          refine g_iald C 3 0 rfl rfl (16 + i) rfl (by omega) (by decide) (fv i) (hA_4 (by omega)) dL_tells_321 ?_
          refine g_goto C 327 dL_tells_322 (by decide) ?_
          refine g_icmp_ne C 359 dL_tells_327 (by decide) (fun c9 => absurd rfl c9) (fun _ => ?_)
          refine g_aload_n C dL_tells_330 rfl ?_
          refine g_bipush C 6 dL_tells_331 (by decide +kernel) ?_
          refine g_iload C dL_tells_333 rfl ?_
          refine g_iconst C 0 dL_tells_335 (by decide +kernel) ?_
          refine gx_callH C hX (wQ cI uq qf ++ (wA cI u nc nw tk ho ri lo mg pt bd cx cy ch rm on wx wy dm sv fv hd lf la)) ((wCo cI a b d mg pt bd tk ho ri lo fv hd lf la ++ wSo cI cW a b r2 hp rl cn be bw wo) ++ wL cI cZ cG a r nc nw cx cy ch rm on wx wy dm sv mv qv) [.ref (d 0), .int 6, .int (nI i), .int 0] (t_L_of_6 hl0 (by omega) (by omega)) (vx_cwSW 4 C.ts gL_tells_L_of rfl rfl rfl (by decide +kernel) ⟨Nat.le_of_ble_eq_true rfl, Nat.le_of_ble_eq_true rfl⟩) rfl (by simp only [List.append_assoc]) rfl (Nat.le_of_ble_eq_true rfl) dL_tells_336 (rmL (by omega) (by omega)) (fun rv14 wv14 hp14 => ?_)
          obtain ⟨rfl, rfl⟩ : rv14 = hd i ∧ wv14 = ((wCo cI a b d mg pt bd tk ho ri lo fv hd lf la ++ wSo cI cW a b r2 hp rl cn be bw wo) ++ wL cI cZ cG a r nc nw cx cy ch rm on wx wy dm sv mv qv) := by
            rcases hp14 with ⟨h1, _, h2⟩ | ⟨_, hb, _⟩
            · skip
              rw [hki] at h1
              exact ⟨h1, h2⟩
            · exact absurd ⟨i, hi, rfl⟩ hb
          refine g_w (ws' := (wQ cI uq qf ++ (wA cI u nc nw tk ho ri lo mg pt bd cx cy ch rm on wx wy dm sv fv hd lf la ++ ((wCo cI a b d mg pt bd tk ho ri lo fv hd lf la ++ wSo cI cW a b r2 hp rl cn be bw wo) ++ wL cI cZ cG a r nc nw cx cy ch rm on wx wy dm sv mv qv)))) (by simp only [List.append_assoc]) ?_
          refine g_iload C dL_tells_339 rfl ?_
          refine g_if_eq C 354 dL_tells_341 (by decide) (fun c9 => absurd c9 (by decide)) (fun _ => ?_)
          refine g_aload_n C dL_tells_344 rfl ?_
          refine g_bipush C 20 dL_tells_345 (by decide +kernel) ?_
          refine g_iload C dL_tells_347 rfl ?_
          refine g_iadd C (nI (20 + i)) dL_tells_349 (nI_k 20 i _ rfl) ?_
          refine g_iald C 3 0 rfl rfl (20 + i) rfl (by omega) (by decide) (hd i) (hA_5 (by omega)) dL_tells_350 ?_
          refine g_goto C 356 dL_tells_351 (by decide) ?_
          refine g_icmp_eq C 361 dL_tells_356 (by decide) (fun _ => ?_) (fun c9 => absurd rfl c9)
          refine g_iinc C (nI (i + 1)) [some (.ref (d 0)), some (.ref (u 0)), some (.ref (u 1)), some (.ref (u 2)), some (.ref uq), some (.int x), some (.int (nI (i + 1))), some (.int 1), none, none] dL_tells_361 rfl (nI_1 i) (by decide) rfl rfl ?_
          refine g_goto C 223 dL_tells_364 (by decide) ?_
          refine g_mask [true, true, true, true, true, true, true, false, false, false] rfl ?_
          refine g_widen (k' := 221 + (i + 1) * 6) (n' := 1336 + (i + 1) * 36) (by omega) (by omega) ?_
          exact ih (i + 1) x ⟨by omega, by rw [Nat.min_eq_left (by omega), fun0, if_neg hm, ← e9]⟩ (by omega)
        · skip
          have hm : sv i = -1 := (sv_neg (by omega) (hJ.svv i hi)).mp (Int32.not_le.mp c_260)
          refine g_iconst C 1 dL_tells_263 (by decide +kernel) ?_
          refine g_iload C dL_tells_264 rfl ?_
          refine g_ishl C (1 <<< ((nI i) &&& 31)) dL_tells_266 rfl ?_
          refine g_goto C 271 dL_tells_267 (by decide) ?_
          refine g_ior C (x ||| (1 <<< ((nI i) &&& 31))) dL_tells_271 rfl ?_
          refine g_istore C [some (.ref (d 0)), some (.ref (u 0)), some (.ref (u 1)), some (.ref (u 2)), some (.ref uq), some (.int (x ||| (1 <<< ((nI i) &&& 31)))), some (.int (nI i)), some (.int 1), none, none] dL_tells_272 (by decide) rfl rfl ?_
          refine g_aload_n C dL_tells_274 rfl ?_
          refine g_iconst C 4 dL_tells_275 (by decide +kernel) ?_
          refine g_iload C dL_tells_276 rfl ?_
          refine g_iconst C 0 dL_tells_278 (by decide +kernel) ?_
          refine gx_callH C hX (wQ cI uq qf ++ (wA cI u nc nw tk ho ri lo mg pt bd cx cy ch rm on wx wy dm sv fv hd lf la)) ((wCo cI a b d mg pt bd tk ho ri lo fv hd lf la ++ wSo cI cW a b r2 hp rl cn be bw wo) ++ wL cI cZ cG a r nc nw cx cy ch rm on wx wy dm sv mv qv) [.ref (d 0), .int 4, .int (nI i), .int 0] (t_L_of_4 hl0 (by omega) (by omega)) (vx_cwSW 4 C.ts gL_tells_L_of rfl rfl rfl (by decide +kernel) ⟨Nat.le_of_ble_eq_true rfl, Nat.le_of_ble_eq_true rfl⟩) rfl (by simp only [List.append_assoc]) rfl (Nat.le_of_ble_eq_true rfl) dL_tells_279 (rmL (by omega) (by omega)) (fun rv15 wv15 hp15 => ?_)
          obtain ⟨rfl, rfl⟩ : rv15 = sv i ∧ wv15 = ((wCo cI a b d mg pt bd tk ho ri lo fv hd lf la ++ wSo cI cW a b r2 hp rl cn be bw wo) ++ wL cI cZ cG a r nc nw cx cy ch rm on wx wy dm sv mv qv) := by
            rcases hp15 with ⟨h1, _, h2⟩ | ⟨_, hb, _⟩
            · skip
              rw [hki] at h1
              exact ⟨h1, h2⟩
            · exact absurd ⟨i, hi, rfl⟩ hb
          refine g_w (ws' := (wQ cI uq qf ++ (wA cI u nc nw tk ho ri lo mg pt bd cx cy ch rm on wx wy dm sv fv hd lf la ++ ((wCo cI a b d mg pt bd tk ho ri lo fv hd lf la ++ wSo cI cW a b r2 hp rl cn be bw wo) ++ wL cI cZ cG a r nc nw cx cy ch rm on wx wy dm sv mv qv)))) (by simp only [List.append_assoc]) ?_
          refine g_iload C dL_tells_282 rfl ?_
          refine g_if_eq C 297 dL_tells_284 (by decide) (fun c9 => absurd c9 (by decide)) (fun _ => ?_)
          refine g_aload_n C dL_tells_287 rfl ?_
          refine g_bipush C 12 dL_tells_288 (by decide +kernel) ?_
          refine g_iload C dL_tells_290 rfl ?_
          refine g_iadd C (nI (12 + i)) dL_tells_292 (nI_k 12 i _ rfl) ?_
          refine g_iald C 3 0 rfl rfl (12 + i) rfl (by omega) (by decide) (sv i) (hA_3 (by omega)) dL_tells_293 ?_
          refine g_goto C 299 dL_tells_294 (by decide) ?_
          refine g_icmp_ne C 359 dL_tells_299 (by decide) (fun c9 => absurd rfl c9) (fun _ => ?_)
          refine g_aload_n C dL_tells_302 rfl ?_
          refine g_iconst C 5 dL_tells_303 (by decide +kernel) ?_
          refine g_iload C dL_tells_304 rfl ?_
          refine g_iconst C 0 dL_tells_306 (by decide +kernel) ?_
          refine gx_callH C hX (wQ cI uq qf ++ (wA cI u nc nw tk ho ri lo mg pt bd cx cy ch rm on wx wy dm sv fv hd lf la)) ((wCo cI a b d mg pt bd tk ho ri lo fv hd lf la ++ wSo cI cW a b r2 hp rl cn be bw wo) ++ wL cI cZ cG a r nc nw cx cy ch rm on wx wy dm sv mv qv) [.ref (d 0), .int 5, .int (nI i), .int 0] (t_L_of_5 hl0 (by omega) (by omega)) (vx_cwSW 4 C.ts gL_tells_L_of rfl rfl rfl (by decide +kernel) ⟨Nat.le_of_ble_eq_true rfl, Nat.le_of_ble_eq_true rfl⟩) rfl (by simp only [List.append_assoc]) rfl (Nat.le_of_ble_eq_true rfl) dL_tells_307 (rmL (by omega) (by omega)) (fun rv16 wv16 hp16 => ?_)
          obtain ⟨rfl, rfl⟩ : rv16 = fv i ∧ wv16 = ((wCo cI a b d mg pt bd tk ho ri lo fv hd lf la ++ wSo cI cW a b r2 hp rl cn be bw wo) ++ wL cI cZ cG a r nc nw cx cy ch rm on wx wy dm sv mv qv) := by
            rcases hp16 with ⟨h1, _, h2⟩ | ⟨_, hb, _⟩
            · skip
              rw [hki] at h1
              exact ⟨h1, h2⟩
            · exact absurd ⟨i, hi, rfl⟩ hb
          refine g_w (ws' := (wQ cI uq qf ++ (wA cI u nc nw tk ho ri lo mg pt bd cx cy ch rm on wx wy dm sv fv hd lf la ++ ((wCo cI a b d mg pt bd tk ho ri lo fv hd lf la ++ wSo cI cW a b r2 hp rl cn be bw wo) ++ wL cI cZ cG a r nc nw cx cy ch rm on wx wy dm sv mv qv)))) (by simp only [List.append_assoc]) ?_
          refine g_iload C dL_tells_310 rfl ?_
          refine g_if_eq C 325 dL_tells_312 (by decide) (fun c9 => absurd c9 (by decide)) (fun _ => ?_)
          refine g_aload_n C dL_tells_315 rfl ?_
          refine g_bipush C 16 dL_tells_316 (by decide +kernel) ?_
          refine g_iload C dL_tells_318 rfl ?_
          refine g_iadd C (nI (16 + i)) dL_tells_320 (nI_k 16 i _ rfl) ?_
          refine g_iald C 3 0 rfl rfl (16 + i) rfl (by omega) (by decide) (fv i) (hA_4 (by omega)) dL_tells_321 ?_
          refine g_goto C 327 dL_tells_322 (by decide) ?_
          refine g_icmp_ne C 359 dL_tells_327 (by decide) (fun c9 => absurd rfl c9) (fun _ => ?_)
          refine g_aload_n C dL_tells_330 rfl ?_
          refine g_bipush C 6 dL_tells_331 (by decide +kernel) ?_
          refine g_iload C dL_tells_333 rfl ?_
          refine g_iconst C 0 dL_tells_335 (by decide +kernel) ?_
          refine gx_callH C hX (wQ cI uq qf ++ (wA cI u nc nw tk ho ri lo mg pt bd cx cy ch rm on wx wy dm sv fv hd lf la)) ((wCo cI a b d mg pt bd tk ho ri lo fv hd lf la ++ wSo cI cW a b r2 hp rl cn be bw wo) ++ wL cI cZ cG a r nc nw cx cy ch rm on wx wy dm sv mv qv) [.ref (d 0), .int 6, .int (nI i), .int 0] (t_L_of_6 hl0 (by omega) (by omega)) (vx_cwSW 4 C.ts gL_tells_L_of rfl rfl rfl (by decide +kernel) ⟨Nat.le_of_ble_eq_true rfl, Nat.le_of_ble_eq_true rfl⟩) rfl (by simp only [List.append_assoc]) rfl (Nat.le_of_ble_eq_true rfl) dL_tells_336 (rmL (by omega) (by omega)) (fun rv17 wv17 hp17 => ?_)
          obtain ⟨rfl, rfl⟩ : rv17 = hd i ∧ wv17 = ((wCo cI a b d mg pt bd tk ho ri lo fv hd lf la ++ wSo cI cW a b r2 hp rl cn be bw wo) ++ wL cI cZ cG a r nc nw cx cy ch rm on wx wy dm sv mv qv) := by
            rcases hp17 with ⟨h1, _, h2⟩ | ⟨_, hb, _⟩
            · skip
              rw [hki] at h1
              exact ⟨h1, h2⟩
            · exact absurd ⟨i, hi, rfl⟩ hb
          refine g_w (ws' := (wQ cI uq qf ++ (wA cI u nc nw tk ho ri lo mg pt bd cx cy ch rm on wx wy dm sv fv hd lf la ++ ((wCo cI a b d mg pt bd tk ho ri lo fv hd lf la ++ wSo cI cW a b r2 hp rl cn be bw wo) ++ wL cI cZ cG a r nc nw cx cy ch rm on wx wy dm sv mv qv)))) (by simp only [List.append_assoc]) ?_
          refine g_iload C dL_tells_339 rfl ?_
          refine g_if_eq C 354 dL_tells_341 (by decide) (fun c9 => absurd c9 (by decide)) (fun _ => ?_)
          refine g_aload_n C dL_tells_344 rfl ?_
          refine g_bipush C 20 dL_tells_345 (by decide +kernel) ?_
          refine g_iload C dL_tells_347 rfl ?_
          refine g_iadd C (nI (20 + i)) dL_tells_349 (nI_k 20 i _ rfl) ?_
          refine g_iald C 3 0 rfl rfl (20 + i) rfl (by omega) (by decide) (hd i) (hA_5 (by omega)) dL_tells_350 ?_
          refine g_goto C 356 dL_tells_351 (by decide) ?_
          refine g_icmp_eq C 361 dL_tells_356 (by decide) (fun _ => ?_) (fun c9 => absurd rfl c9)
          refine g_iinc C (nI (i + 1)) [some (.ref (d 0)), some (.ref (u 0)), some (.ref (u 1)), some (.ref (u 2)), some (.ref uq), some (.int (x ||| (1 <<< ((nI i) &&& 31)))), some (.int (nI (i + 1))), some (.int 1), none, none] dL_tells_361 rfl (nI_1 i) (by decide) rfl rfl ?_
          refine g_goto C 223 dL_tells_364 (by decide) ?_
          refine g_mask [true, true, true, true, true, true, true, false, false, false] rfl ?_
          refine g_widen (k' := 221 + (i + 1) * 6) (n' := 1336 + (i + 1) * 36) (by omega) (by omega) ?_
          exact ih (i + 1) (x ||| (1 <<< ((nI i) &&& 31))) ⟨by omega, by rw [Nat.min_eq_left (by omega), fun0, if_pos hm, ← e9]⟩ (by omega)
  · skip
    have c_25 : ¬ (nc < i) := fun h9 => c_25 ((nI_ltI (by omega) (by omega)).mpr h9)
    have hki : (nI i).toNatClampNeg = i := nI_clamp (by omega)
    refine g_iload C dL_tells_28 rfl ?_
    refine g_aload_n C dL_tells_30 rfl ?_
    refine g_iconst C 0 dL_tells_31 (by decide +kernel) ?_
    refine g_iald C 1 0 rfl rfl 0 rfl (by omega) (by decide) (nI nc) rfl dL_tells_32 ?_
    refine g_icmp_ge C 40 dL_tells_33 (by decide) (fun c_33 => ?_) (fun c_33 => ?_)
    · skip
      have c_33 : nc ≤ i := (nI_leI (by omega) (by omega)).mp c_33
      have hni : ¬ IC nc (nI i) := IC_no2 (by omega) (nI_nlt c_33 (by omega))
      refine g_iconst C 0 dL_tells_40 (by decide +kernel) ?_
      refine g_istore C [some (.ref (d 0)), some (.ref (u 0)), some (.ref (u 1)), some (.ref (u 2)), some (.ref uq), some (.int 0), some (.int (nI i)), some (.int 0), none, none] dL_tells_41 (by decide) rfl rfl ?_
      refine g_iconst C 0 dL_tells_43 (by decide +kernel) ?_
      refine g_istore C [some (.ref (d 0)), some (.ref (u 0)), some (.ref (u 1)), some (.ref (u 2)), some (.ref uq), some (.int 0), some (.int (nI i)), some (.int 0), some (.int 0), none] dL_tells_44 (by decide) rfl rfl ?_
      refine g_loopk3 0 mv qv (fun (j : Nat) (mw : Nat → Int32) (qw : Nat → Nat → Int32) => j ≤ nw + 1) (fun (j : Nat) (mw : Nat → Int32) (qw : Nat → Nat → Int32) => (wQ cI uq qf ++ (wA cI u nc nw tk ho ri lo mg pt bd cx cy ch rm on wx wy dm sv fv hd lf la ++ ((wCo cI a b d mg pt bd tk ho ri lo fv hd lf la ++ wSo cI cW a b r2 hp rl cn be bw wo) ++ wL cI cZ cG a r nc nw cx cy ch rm on wx wy dm sv mw qw)))) (fun (j : Nat) (mw : Nat → Int32) (qw : Nat → Nat → Int32) => [some (.ref (d 0)), some (.ref (u 0)), some (.ref (u 1)), some (.ref (u 2)), some (.ref uq), some (.int 0), some (.int (nI i)), some (.int 0), some (.int (nI j)), none]) (fun (j : Nat) (mw : Nat → Int32) (qw : Nat → Nat → Int32) => 1 + i * 44 + j * 8) (fun (j : Nat) (mw : Nat → Int32) (qw : Nat → Nat → Int32) => 16 + i * 264 + j * 48) (fun (j : Nat) (mw : Nat → Int32) (qw : Nat → Nat → Int32) => nw + 1 - j) (Nat.zero_le _) rfl rfl (by omega) (by omega) (fun j mw qw hJ2 jh => ?_)
      have d1 := hJ2
      have hkj : (nI j).toNatClampNeg = j := nI_clamp (by omega)
      refine g_iload C dL_tells_46 rfl ?_
      refine g_aload_n C dL_tells_48 rfl ?_
      refine g_iconst C 1 dL_tells_49 (by decide +kernel) ?_
      refine g_iald C 1 0 rfl rfl 1 rfl (by omega) (by decide) (nI nw) rfl dL_tells_50 ?_
      refine g_icmp_gt C 145 dL_tells_51 (by decide) (fun c_51 => ?_) (fun c_51 => ?_)
      · skip
        have c_51 : nw < j := (nI_ltI (by omega) (by omega)).mp c_51
        refine g_aload_n C dL_tells_145 rfl ?_
        refine g_iconst C 2 dL_tells_146 (by decide +kernel) ?_
        refine g_iload C dL_tells_147 rfl ?_
        refine g_iconst C 0 dL_tells_149 (by decide +kernel) ?_
        refine gx_callH C hX (wQ cI uq qf ++ (wA cI u nc nw tk ho ri lo mg pt bd cx cy ch rm on wx wy dm sv fv hd lf la)) ((wCo cI a b d mg pt bd tk ho ri lo fv hd lf la ++ wSo cI cW a b r2 hp rl cn be bw wo) ++ wL cI cZ cG a r nc nw cx cy ch rm on wx wy dm sv mw qw) [.ref (d 0), .int 2, .int (nI i), .int 0] (t_L_of_2 hl0 (by omega) (by omega)) (vx_cwSW 4 C.ts gL_tells_L_of rfl rfl rfl (by decide +kernel) ⟨Nat.le_of_ble_eq_true rfl, Nat.le_of_ble_eq_true rfl⟩) rfl (by simp only [List.append_assoc]) rfl (Nat.le_of_ble_eq_true rfl) dL_tells_150 (rmL (by omega) (by omega)) (fun rv18 wv18 hp18 => ?_)
        obtain ⟨rfl, rfl⟩ : rv18 = -101 ∧ wv18 = ((wCo cI a b d mg pt bd tk ho ri lo fv hd lf la ++ wSo cI cW a b r2 hp rl cn be bw wo) ++ wL cI cZ cG a r nc nw cx cy ch rm on wx wy dm sv mw qw) := by
          rcases hp18 with ⟨_, hb, _⟩ | ⟨h1, _, h2⟩
          · exact absurd hb hni
          · exact ⟨h1, h2⟩
        refine g_w (ws' := (wQ cI uq qf ++ (wA cI u nc nw tk ho ri lo mg pt bd cx cy ch rm on wx wy dm sv fv hd lf la ++ ((wCo cI a b d mg pt bd tk ho ri lo fv hd lf la ++ wSo cI cW a b r2 hp rl cn be bw wo) ++ wL cI cZ cG a r nc nw cx cy ch rm on wx wy dm sv mw qw)))) (by simp only [List.append_assoc]) ?_
        refine g_iload C dL_tells_153 rfl ?_
        refine g_if_eq C 168 dL_tells_155 (by decide) (fun _ => ?_) (fun c9 => absurd rfl c9)
        refine g_bipush C (-101) dL_tells_168 (by decide +kernel) ?_
        refine g_icmp_ne C 212 dL_tells_170 (by decide) (fun c9 => absurd rfl c9) (fun _ => ?_)
        refine g_aload_n C dL_tells_173 rfl ?_
        refine g_iconst C 3 dL_tells_174 (by decide +kernel) ?_
        refine g_iload C dL_tells_175 rfl ?_
        refine g_iconst C 0 dL_tells_177 (by decide +kernel) ?_
        refine gx_callH C hX (wQ cI uq qf ++ (wA cI u nc nw tk ho ri lo mg pt bd cx cy ch rm on wx wy dm sv fv hd lf la)) ((wCo cI a b d mg pt bd tk ho ri lo fv hd lf la ++ wSo cI cW a b r2 hp rl cn be bw wo) ++ wL cI cZ cG a r nc nw cx cy ch rm on wx wy dm sv mw qw) [.ref (d 0), .int 3, .int (nI i), .int 0] (t_L_of_3 hl0 (by omega) (by omega) hJ.1.ihr) (vx_cwSW 4 C.ts gL_tells_L_of rfl rfl rfl (by decide +kernel) ⟨Nat.le_of_ble_eq_true rfl, Nat.le_of_ble_eq_true rfl⟩) rfl (by simp only [List.append_assoc]) rfl (Nat.le_of_ble_eq_true rfl) dL_tells_178 (rmL (by omega) (by omega)) (fun rv19 wv19 hp19 => ?_)
        obtain ⟨rfl, rfl⟩ : rv19 = -101 ∧ wv19 = ((wCo cI a b d mg pt bd tk ho ri lo fv hd lf la ++ wSo cI cW a b r2 hp rl cn be bw wo) ++ wL cI cZ cG a r nc nw cx cy ch rm on wx wy dm sv mw qw) := by
          rcases hp19 with ⟨_, hb, _⟩ | ⟨h1, _, h2⟩
          · exact absurd hb hni
          · exact ⟨h1, h2⟩
        refine g_w (ws' := (wQ cI uq qf ++ (wA cI u nc nw tk ho ri lo mg pt bd cx cy ch rm on wx wy dm sv fv hd lf la ++ ((wCo cI a b d mg pt bd tk ho ri lo fv hd lf la ++ wSo cI cW a b r2 hp rl cn be bw wo) ++ wL cI cZ cG a r nc nw cx cy ch rm on wx wy dm sv mw qw)))) (by simp only [List.append_assoc]) ?_
        refine g_iload C dL_tells_181 rfl ?_
        refine g_if_eq C 207 dL_tells_183 (by decide) (fun _ => ?_) (fun c9 => absurd rfl c9)
        refine g_bipush C (-101) dL_tells_207 (by decide +kernel) ?_
        refine g_icmp_eq C 214 dL_tells_209 (by decide) (fun _ => ?_) (fun c9 => absurd rfl c9)
        refine g_iinc C (nI (i + 1)) [some (.ref (d 0)), some (.ref (u 0)), some (.ref (u 1)), some (.ref (u 2)), some (.ref uq), some (.int 0), some (.int (nI (i + 1))), some (.int 0), some (.int (nI j)), none] dL_tells_214 rfl (nI_1 i) (by decide) rfl rfl ?_
        refine g_goto C 20 dL_tells_217 (by decide) ?_
        refine g_mask [true, true, true, true, true, true, true, false, false, false] rfl ?_
        refine g_widen (k' := 1 + (i + 1) * 44) (n' := 16 + (i + 1) * 264) (by omega) (by omega) ?_
        exact ih (i + 1) mw qw (by omega) (by omega)
      · skip
        have c_51 : ¬ (nw < j) := fun h9 => c_51 ((nI_ltI (by omega) (by omega)).mpr h9)
        refine g_iload C dL_tells_54 rfl ?_
        have hnb : ¬ (IC nc (nI i) ∧ IC nw (nI j)) := fun q => hni q.1
        refine g_if_eq C 71 dL_tells_56 (by decide) (fun _ => ?_) (fun c9 => absurd rfl c9)
        refine g_iconst C 0 dL_tells_71 (by decide +kernel) ?_
        refine g_istore C [some (.ref (d 0)), some (.ref (u 0)), some (.ref (u 1)), some (.ref (u 2)), some (.ref uq), some (.int 0), some (.int (nI i)), some (.int 0), some (.int (nI j)), some (.int 0)] dL_tells_72 (by decide) rfl rfl ?_
        refine g_aload_n C dL_tells_74 rfl ?_
        refine g_iconst C 0 dL_tells_75 (by decide +kernel) ?_
        refine g_iload C dL_tells_76 rfl ?_
        refine g_iload C dL_tells_78 rfl ?_
        refine gx_callH C hX (wQ cI uq qf ++ (wA cI u nc nw tk ho ri lo mg pt bd cx cy ch rm on wx wy dm sv fv hd lf la)) ((wCo cI a b d mg pt bd tk ho ri lo fv hd lf la ++ wSo cI cW a b r2 hp rl cn be bw wo) ++ wL cI cZ cG a r nc nw cx cy ch rm on wx wy dm sv mw qw) [.ref (d 0), .int 0, .int (nI i), .int (nI j)] (t_L_of_0 hl0 (by omega) (by omega) hJ.1.ihg) (vx_cwSW 4 C.ts gL_tells_L_of rfl rfl rfl (by decide +kernel) ⟨Nat.le_of_ble_eq_true rfl, Nat.le_of_ble_eq_true rfl⟩) rfl (by simp only [List.append_assoc]) rfl (Nat.le_of_ble_eq_true rfl) dL_tells_80 (rmL (by omega) (by omega)) (fun rv20 wv20 hp20 => ?_)
        obtain ⟨rfl, rfl⟩ : rv20 = -101 ∧ wv20 = ((wCo cI a b d mg pt bd tk ho ri lo fv hd lf la ++ wSo cI cW a b r2 hp rl cn be bw wo) ++ wL cI cZ cG a r nc nw cx cy ch rm on wx wy dm sv mw qw) := by
          rcases hp20 with ⟨_, hb, _⟩ | ⟨h1, _, h2⟩
          · exact absurd hb hnb
          · exact ⟨h1, h2⟩
        refine g_w (ws' := (wQ cI uq qf ++ (wA cI u nc nw tk ho ri lo mg pt bd cx cy ch rm on wx wy dm sv fv hd lf la ++ ((wCo cI a b d mg pt bd tk ho ri lo fv hd lf la ++ wSo cI cW a b r2 hp rl cn be bw wo) ++ wL cI cZ cG a r nc nw cx cy ch rm on wx wy dm sv mw qw)))) (by simp only [List.append_assoc]) ?_
        refine g_iload C dL_tells_83 rfl ?_
        refine g_if_eq C 100 dL_tells_85 (by decide) (fun _ => ?_) (fun c9 => absurd rfl c9)
        refine g_bipush C (-101) dL_tells_100 (by decide +kernel) ?_
        refine g_icmp_ne C 137 dL_tells_102 (by decide) (fun c9 => absurd rfl c9) (fun _ => ?_)
        refine g_aload_n C dL_tells_105 rfl ?_
        refine g_iconst C 1 dL_tells_106 (by decide +kernel) ?_
        refine g_iload C dL_tells_107 rfl ?_
        refine g_iload C dL_tells_109 rfl ?_
        refine gx_callH C hX (wQ cI uq qf ++ (wA cI u nc nw tk ho ri lo mg pt bd cx cy ch rm on wx wy dm sv fv hd lf la)) ((wCo cI a b d mg pt bd tk ho ri lo fv hd lf la ++ wSo cI cW a b r2 hp rl cn be bw wo) ++ wL cI cZ cG a r nc nw cx cy ch rm on wx wy dm sv mw qw) [.ref (d 0), .int 1, .int (nI i), .int (nI j)] (t_L_of_1 hl0 (by omega) (by omega) hJ.1.ihr hJ.1.ihg (hJ.1.iGQ on sv mw)) (vx_cwSW 4 C.ts gL_tells_L_of rfl rfl rfl (by decide +kernel) ⟨Nat.le_of_ble_eq_true rfl, Nat.le_of_ble_eq_true rfl⟩) rfl (by simp only [List.append_assoc]) rfl (Nat.le_of_ble_eq_true rfl) dL_tells_111 (rmL (by omega) (by omega)) (fun rv21 wv21 hp21 => ?_)
        obtain ⟨rfl, rfl⟩ : rv21 = -101 ∧ wv21 = ((wCo cI a b d mg pt bd tk ho ri lo fv hd lf la ++ wSo cI cW a b r2 hp rl cn be bw wo) ++ wL cI cZ cG a r nc nw cx cy ch rm on wx wy dm sv mw qw) := by
          rcases hp21 with ⟨_, hb, _⟩ | ⟨h1, _, h2⟩
          · exact absurd hb hnb
          · exact ⟨h1, h2⟩
        refine g_w (ws' := (wQ cI uq qf ++ (wA cI u nc nw tk ho ri lo mg pt bd cx cy ch rm on wx wy dm sv fv hd lf la ++ ((wCo cI a b d mg pt bd tk ho ri lo fv hd lf la ++ wSo cI cW a b r2 hp rl cn be bw wo) ++ wL cI cZ cG a r nc nw cx cy ch rm on wx wy dm sv mw qw)))) (by simp only [List.append_assoc]) ?_
        refine g_iload C dL_tells_114 rfl ?_
        refine g_if_eq C 132 dL_tells_116 (by decide) (fun _ => ?_) (fun c9 => absurd rfl c9)
        refine g_bipush C (-101) dL_tells_132 (by decide +kernel) ?_
        refine g_icmp_eq C 139 dL_tells_134 (by decide) (fun _ => ?_) (fun c9 => absurd rfl c9)
        refine g_iinc C (nI (j + 1)) [some (.ref (d 0)), some (.ref (u 0)), some (.ref (u 1)), some (.ref (u 2)), some (.ref uq), some (.int 0), some (.int (nI i)), some (.int 0), some (.int (nI (j + 1))), some (.int 0)] dL_tells_139 rfl (nI_1 j) (by decide) rfl rfl ?_
        refine g_goto C 46 dL_tells_142 (by decide) ?_
        refine g_mask [true, true, true, true, true, true, true, true, true, false] rfl ?_
        refine g_widen (k' := 1 + i * 44 + (j + 1) * 8) (n' := 16 + i * 264 + (j + 1) * 48) (by omega) (by omega) ?_
        exact jh (j + 1) mw qw (by omega) (by omega)
    · skip
      have c_33 : ¬ (nc ≤ i) := fun h9 => c_33 ((nI_leI (by omega) (by omega)).mpr h9)
      have hi : i < nc := by omega
      refine g_iconst C 1 dL_tells_36 (by decide +kernel) ?_
      refine g_goto C 41 dL_tells_37 (by decide) ?_
      refine g_istore C [some (.ref (d 0)), some (.ref (u 0)), some (.ref (u 1)), some (.ref (u 2)), some (.ref uq), some (.int 0), some (.int (nI i)), some (.int 1), none, none] dL_tells_41 (by decide) rfl rfl ?_
      refine g_iconst C 0 dL_tells_43 (by decide +kernel) ?_
      refine g_istore C [some (.ref (d 0)), some (.ref (u 0)), some (.ref (u 1)), some (.ref (u 2)), some (.ref uq), some (.int 0), some (.int (nI i)), some (.int 1), some (.int 0), none] dL_tells_44 (by decide) rfl rfl ?_
      refine g_loopk3 0 mv qv (fun (j : Nat) (mw : Nat → Int32) (qw : Nat → Nat → Int32) => j ≤ nw + 1) (fun (j : Nat) (mw : Nat → Int32) (qw : Nat → Nat → Int32) => (wQ cI uq qf ++ (wA cI u nc nw tk ho ri lo mg pt bd cx cy ch rm on wx wy dm sv fv hd lf la ++ ((wCo cI a b d mg pt bd tk ho ri lo fv hd lf la ++ wSo cI cW a b r2 hp rl cn be bw wo) ++ wL cI cZ cG a r nc nw cx cy ch rm on wx wy dm sv mw qw)))) (fun (j : Nat) (mw : Nat → Int32) (qw : Nat → Nat → Int32) => [some (.ref (d 0)), some (.ref (u 0)), some (.ref (u 1)), some (.ref (u 2)), some (.ref uq), some (.int 0), some (.int (nI i)), some (.int 1), some (.int (nI j)), none]) (fun (j : Nat) (mw : Nat → Int32) (qw : Nat → Nat → Int32) => 1 + i * 44 + j * 8) (fun (j : Nat) (mw : Nat → Int32) (qw : Nat → Nat → Int32) => 16 + i * 264 + j * 48) (fun (j : Nat) (mw : Nat → Int32) (qw : Nat → Nat → Int32) => nw + 1 - j) (Nat.zero_le _) rfl rfl (by omega) (by omega) (fun j mw qw hJ2 jh => ?_)
      have d1 := hJ2
      have hkj : (nI j).toNatClampNeg = j := nI_clamp (by omega)
      refine g_iload C dL_tells_46 rfl ?_
      refine g_aload_n C dL_tells_48 rfl ?_
      refine g_iconst C 1 dL_tells_49 (by decide +kernel) ?_
      refine g_iald C 1 0 rfl rfl 1 rfl (by omega) (by decide) (nI nw) rfl dL_tells_50 ?_
      refine g_icmp_gt C 145 dL_tells_51 (by decide) (fun c_51 => ?_) (fun c_51 => ?_)
      · skip
        have c_51 : nw < j := (nI_ltI (by omega) (by omega)).mp c_51
        refine g_aload_n C dL_tells_145 rfl ?_
        refine g_iconst C 2 dL_tells_146 (by decide +kernel) ?_
        refine g_iload C dL_tells_147 rfl ?_
        refine g_iconst C 0 dL_tells_149 (by decide +kernel) ?_
        refine gx_callH C hX (wQ cI uq qf ++ (wA cI u nc nw tk ho ri lo mg pt bd cx cy ch rm on wx wy dm sv fv hd lf la)) ((wCo cI a b d mg pt bd tk ho ri lo fv hd lf la ++ wSo cI cW a b r2 hp rl cn be bw wo) ++ wL cI cZ cG a r nc nw cx cy ch rm on wx wy dm sv mw qw) [.ref (d 0), .int 2, .int (nI i), .int 0] (t_L_of_2 hl0 (by omega) (by omega)) (vx_cwSW 4 C.ts gL_tells_L_of rfl rfl rfl (by decide +kernel) ⟨Nat.le_of_ble_eq_true rfl, Nat.le_of_ble_eq_true rfl⟩) rfl (by simp only [List.append_assoc]) rfl (Nat.le_of_ble_eq_true rfl) dL_tells_150 (rmL (by omega) (by omega)) (fun rv22 wv22 hp22 => ?_)
        obtain ⟨rfl, rfl⟩ : rv22 = fld sv dm (nI i) nw ∧ wv22 = ((wCo cI a b d mg pt bd tk ho ri lo fv hd lf la ++ wSo cI cW a b r2 hp rl cn be bw wo) ++ wL cI cZ cG a r nc nw cx cy ch rm on wx wy dm sv mw qw) := by
          rcases hp22 with ⟨h1, _, h2⟩ | ⟨_, hb, _⟩
          · exact ⟨h1, h2⟩
          · exact absurd ⟨i, hi, rfl⟩ hb
        refine g_w (ws' := (wQ cI uq qf ++ (wA cI u nc nw tk ho ri lo mg pt bd cx cy ch rm on wx wy dm sv fv hd lf la ++ ((wCo cI a b d mg pt bd tk ho ri lo fv hd lf la ++ wSo cI cW a b r2 hp rl cn be bw wo) ++ wL cI cZ cG a r nc nw cx cy ch rm on wx wy dm sv mw qw)))) (by simp only [List.append_assoc]) ?_
        refine g_iload C dL_tells_153 rfl ?_
        refine g_if_eq C 168 dL_tells_155 (by decide) (fun c9 => absurd c9 (by decide)) (fun _ => ?_)
        refine g_aload_n C dL_tells_158 rfl ?_
        refine g_aload_n C dL_tells_159 rfl ?_
        refine g_iload C dL_tells_160 rfl ?_
        refine g_w (ws' := (((wQ cI uq qf) ++ (wA cI u nc nw tk ho ri lo mg pt bd cx cy ch rm on wx wy dm sv fv hd lf la)) ++ ((wCo cI a b d mg pt bd tk ho ri lo fv hd lf la ++ wSo cI cW a b r2 hp rl cn be bw wo) ++ wL cI cZ cG a r nc nw cx cy ch rm on wx wy dm sv mw qw))) (by simp only [List.append_assoc]) ?_
        refine g_swapA ?_
        refine g_callSi C ((wQ cI uq qf) ++ ((wCo cI a b d mg pt bd tk ho ri lo fv hd lf la ++ wSo cI cW a b r2 hp rl cn be bw wo) ++ wL cI cZ cG a r nc nw cx cy ch rm on wx wy dm sv mw qw)) (wA cI u nc nw tk ho ri lo mg pt bd cx cy ch rm on wx wy dm sv fv hd lf la) [.ref (u 0), .ref (u 2), .int (nI i)] (t_L_load w4) (va_cwS 3 C.ts gL_tells_L_load rfl rfl rfl (by decide +kernel) ⟨Nat.le_of_ble_eq_true rfl, Nat.le_of_ble_eq_true rfl⟩) rfl rfl rfl (Nat.le_of_ble_eq_true rfl) dL_tells_162 (rmL (by omega) (by omega)) (fun rv23 wv23 hp23 => ?_)
        obtain ⟨rfl, rfl⟩ := hp23
        refine g_swapA ?_
        refine g_w (ws' := (wQ cI uq qf ++ (wA cI u nc nw tk ho ri lo mg pt bd cx cy ch rm on wx wy dm sv fv hd lf la ++ ((wCo cI a b d mg pt bd tk ho ri lo fv hd lf la ++ wSo cI cW a b r2 hp rl cn be bw wo) ++ wL cI cZ cG a r nc nw cx cy ch rm on wx wy dm sv mw qw)))) (by simp only [List.append_assoc]) ?_
        refine g_goto C 170 dL_tells_165 (by decide) ?_
        refine g_icmp_ne C 212 dL_tells_170 (by decide) (fun c9 => absurd rfl c9) (fun _ => ?_)
        refine g_aload_n C dL_tells_173 rfl ?_
        refine g_iconst C 3 dL_tells_174 (by decide +kernel) ?_
        refine g_iload C dL_tells_175 rfl ?_
        refine g_iconst C 0 dL_tells_177 (by decide +kernel) ?_
        refine gx_callH C hX (wQ cI uq qf ++ (wA cI u nc nw tk ho ri lo mg pt bd cx cy ch rm on wx wy dm sv fv hd lf la)) ((wCo cI a b d mg pt bd tk ho ri lo fv hd lf la ++ wSo cI cW a b r2 hp rl cn be bw wo) ++ wL cI cZ cG a r nc nw cx cy ch rm on wx wy dm sv mw qw) [.ref (d 0), .int 3, .int (nI i), .int 0] (t_L_of_3 hl0 (by omega) (by omega) hJ.1.ihr) (vx_cwSW 4 C.ts gL_tells_L_of rfl rfl rfl (by decide +kernel) ⟨Nat.le_of_ble_eq_true rfl, Nat.le_of_ble_eq_true rfl⟩) rfl (by simp only [List.append_assoc]) rfl (Nat.le_of_ble_eq_true rfl) dL_tells_178 (rmL (by omega) (by omega)) (fun rv24 wv24 hp24 => ?_)
        obtain ⟨rfl, rfl⟩ : rv24 = fus rm sv dm nw i ∧ wv24 = ((wCo cI a b d mg pt bd tk ho ri lo fv hd lf la ++ wSo cI cW a b r2 hp rl cn be bw wo) ++ wL cI cZ cG a r nc nw cx cy ch rm on wx wy dm sv mw qw) := by
          rcases hp24 with ⟨h1, _, h2⟩ | ⟨_, hb, _⟩
          · skip
            rw [hki] at h1
            exact ⟨h1, h2⟩
          · exact absurd ⟨i, hi, rfl⟩ hb
        refine g_w (ws' := (wQ cI uq qf ++ (wA cI u nc nw tk ho ri lo mg pt bd cx cy ch rm on wx wy dm sv fv hd lf la ++ ((wCo cI a b d mg pt bd tk ho ri lo fv hd lf la ++ wSo cI cW a b r2 hp rl cn be bw wo) ++ wL cI cZ cG a r nc nw cx cy ch rm on wx wy dm sv mw qw)))) (by simp only [List.append_assoc]) ?_
        refine g_iload C dL_tells_181 rfl ?_
        refine g_if_eq C 207 dL_tells_183 (by decide) (fun c9 => absurd c9 (by decide)) (fun _ => ?_)
        refine g_bipush C 100 dL_tells_186 (by decide +kernel) ?_
        refine g_aload_n C dL_tells_188 rfl ?_
        refine g_aload_n C dL_tells_189 rfl ?_
        refine g_iload C dL_tells_190 rfl ?_
        refine g_w (ws' := (((wQ cI uq qf) ++ (wA cI u nc nw tk ho ri lo mg pt bd cx cy ch rm on wx wy dm sv fv hd lf la)) ++ ((wCo cI a b d mg pt bd tk ho ri lo fv hd lf la ++ wSo cI cW a b r2 hp rl cn be bw wo) ++ wL cI cZ cG a r nc nw cx cy ch rm on wx wy dm sv mw qw))) (by simp only [List.append_assoc]) ?_
        refine g_swapA ?_
        refine g_callSi C ((wQ cI uq qf) ++ ((wCo cI a b d mg pt bd tk ho ri lo fv hd lf la ++ wSo cI cW a b r2 hp rl cn be bw wo) ++ wL cI cZ cG a r nc nw cx cy ch rm on wx wy dm sv mw qw)) (wA cI u nc nw tk ho ri lo mg pt bd cx cy ch rm on wx wy dm sv fv hd lf la) [.ref (u 0), .ref (u 2), .int (nI i)] (t_L_load w4) (va_cwS 3 C.ts gL_tells_L_load rfl rfl rfl (by decide +kernel) ⟨Nat.le_of_ble_eq_true rfl, Nat.le_of_ble_eq_true rfl⟩) rfl rfl rfl (Nat.le_of_ble_eq_true rfl) dL_tells_192 (rmL (by omega) (by omega)) (fun rv25 wv25 hp25 => ?_)
        obtain ⟨rfl, rfl⟩ := hp25
        refine g_swapA ?_
        refine g_w (ws' := (wQ cI uq qf ++ (wA cI u nc nw tk ho ri lo mg pt bd cx cy ch rm on wx wy dm sv fv hd lf la ++ ((wCo cI a b d mg pt bd tk ho ri lo fv hd lf la ++ wSo cI cW a b r2 hp rl cn be bw wo) ++ wL cI cZ cG a r nc nw cx cy ch rm on wx wy dm sv mw qw)))) (by simp only [List.append_assoc]) ?_
        refine g_imul C (100 * (fld sv dm (nI i) nw)) dL_tells_195 rfl ?_
        refine g_aload_n C dL_tells_196 rfl ?_
        refine g_bipush C 12 dL_tells_197 (by decide +kernel) ?_
        refine g_iload C dL_tells_199 rfl ?_
        refine g_iadd C (nI (12 + i)) dL_tells_201 (nI_k 12 i _ rfl) ?_
        refine g_iald C 2 0 rfl rfl (12 + i) rfl (by omega) (by decide) (rm i) (gA_3 (by omega)) dL_tells_202 ?_
        refine g_idiv C (fus rm sv dm nw i) dL_tells_203 (hJ.r0 i hi) rfl ?_
        refine g_goto C 209 dL_tells_204 (by decide) ?_
        refine g_icmp_eq C 214 dL_tells_209 (by decide) (fun _ => ?_) (fun c9 => absurd rfl c9)
        refine g_iinc C (nI (i + 1)) [some (.ref (d 0)), some (.ref (u 0)), some (.ref (u 1)), some (.ref (u 2)), some (.ref uq), some (.int 0), some (.int (nI (i + 1))), some (.int 1), some (.int (nI j)), none] dL_tells_214 rfl (nI_1 i) (by decide) rfl rfl ?_
        refine g_goto C 20 dL_tells_217 (by decide) ?_
        refine g_mask [true, true, true, true, true, true, true, false, false, false] rfl ?_
        refine g_widen (k' := 1 + (i + 1) * 44) (n' := 16 + (i + 1) * 264) (by omega) (by omega) ?_
        exact ih (i + 1) mw qw (by omega) (by omega)
      · skip
        have c_51 : ¬ (nw < j) := fun h9 => c_51 ((nI_ltI (by omega) (by omega)).mpr h9)
        refine g_iload C dL_tells_54 rfl ?_
        refine g_if_eq C 71 dL_tells_56 (by decide) (fun c9 => absurd c9 (by decide)) (fun _ => ?_)
        refine g_iload C dL_tells_59 rfl ?_
        refine g_aload_n C dL_tells_61 rfl ?_
        refine g_iconst C 1 dL_tells_62 (by decide +kernel) ?_
        refine g_iald C 1 0 rfl rfl 1 rfl (by omega) (by decide) (nI nw) rfl dL_tells_63 ?_
        refine g_icmp_ge C 71 dL_tells_64 (by decide) (fun c_64 => ?_) (fun c_64 => ?_)
        · skip
          have c_64 : nw ≤ j := (nI_leI (by omega) (by omega)).mp c_64
          have hnb : ¬ (IC nc (nI i) ∧ IC nw (nI j)) := fun q => IC_no2 (by omega) (nI_nlt c_64 (by omega)) q.2
          refine g_iconst C 0 dL_tells_71 (by decide +kernel) ?_
          refine g_istore C [some (.ref (d 0)), some (.ref (u 0)), some (.ref (u 1)), some (.ref (u 2)), some (.ref uq), some (.int 0), some (.int (nI i)), some (.int 1), some (.int (nI j)), some (.int 0)] dL_tells_72 (by decide) rfl rfl ?_
          refine g_aload_n C dL_tells_74 rfl ?_
          refine g_iconst C 0 dL_tells_75 (by decide +kernel) ?_
          refine g_iload C dL_tells_76 rfl ?_
          refine g_iload C dL_tells_78 rfl ?_
          refine gx_callH C hX (wQ cI uq qf ++ (wA cI u nc nw tk ho ri lo mg pt bd cx cy ch rm on wx wy dm sv fv hd lf la)) ((wCo cI a b d mg pt bd tk ho ri lo fv hd lf la ++ wSo cI cW a b r2 hp rl cn be bw wo) ++ wL cI cZ cG a r nc nw cx cy ch rm on wx wy dm sv mw qw) [.ref (d 0), .int 0, .int (nI i), .int (nI j)] (t_L_of_0 hl0 (by omega) (by omega) hJ.1.ihg) (vx_cwSW 4 C.ts gL_tells_L_of rfl rfl rfl (by decide +kernel) ⟨Nat.le_of_ble_eq_true rfl, Nat.le_of_ble_eq_true rfl⟩) rfl (by simp only [List.append_assoc]) rfl (Nat.le_of_ble_eq_true rfl) dL_tells_80 (rmL (by omega) (by omega)) (fun rv26 wv26 hp26 => ?_)
          obtain ⟨rfl, rfl⟩ : rv26 = -101 ∧ wv26 = ((wCo cI a b d mg pt bd tk ho ri lo fv hd lf la ++ wSo cI cW a b r2 hp rl cn be bw wo) ++ wL cI cZ cG a r nc nw cx cy ch rm on wx wy dm sv mw qw) := by
            rcases hp26 with ⟨_, hb, _⟩ | ⟨h1, _, h2⟩
            · exact absurd hb hnb
            · exact ⟨h1, h2⟩
          refine g_w (ws' := (wQ cI uq qf ++ (wA cI u nc nw tk ho ri lo mg pt bd cx cy ch rm on wx wy dm sv fv hd lf la ++ ((wCo cI a b d mg pt bd tk ho ri lo fv hd lf la ++ wSo cI cW a b r2 hp rl cn be bw wo) ++ wL cI cZ cG a r nc nw cx cy ch rm on wx wy dm sv mw qw)))) (by simp only [List.append_assoc]) ?_
          refine g_iload C dL_tells_83 rfl ?_
          refine g_if_eq C 100 dL_tells_85 (by decide) (fun _ => ?_) (fun c9 => absurd rfl c9)
          refine g_bipush C (-101) dL_tells_100 (by decide +kernel) ?_
          refine g_icmp_ne C 137 dL_tells_102 (by decide) (fun c9 => absurd rfl c9) (fun _ => ?_)
          refine g_aload_n C dL_tells_105 rfl ?_
          refine g_iconst C 1 dL_tells_106 (by decide +kernel) ?_
          refine g_iload C dL_tells_107 rfl ?_
          refine g_iload C dL_tells_109 rfl ?_
          refine gx_callH C hX (wQ cI uq qf ++ (wA cI u nc nw tk ho ri lo mg pt bd cx cy ch rm on wx wy dm sv fv hd lf la)) ((wCo cI a b d mg pt bd tk ho ri lo fv hd lf la ++ wSo cI cW a b r2 hp rl cn be bw wo) ++ wL cI cZ cG a r nc nw cx cy ch rm on wx wy dm sv mw qw) [.ref (d 0), .int 1, .int (nI i), .int (nI j)] (t_L_of_1 hl0 (by omega) (by omega) hJ.1.ihr hJ.1.ihg (hJ.1.iGQ on sv mw)) (vx_cwSW 4 C.ts gL_tells_L_of rfl rfl rfl (by decide +kernel) ⟨Nat.le_of_ble_eq_true rfl, Nat.le_of_ble_eq_true rfl⟩) rfl (by simp only [List.append_assoc]) rfl (Nat.le_of_ble_eq_true rfl) dL_tells_111 (rmL (by omega) (by omega)) (fun rv27 wv27 hp27 => ?_)
          obtain ⟨rfl, rfl⟩ : rv27 = -101 ∧ wv27 = ((wCo cI a b d mg pt bd tk ho ri lo fv hd lf la ++ wSo cI cW a b r2 hp rl cn be bw wo) ++ wL cI cZ cG a r nc nw cx cy ch rm on wx wy dm sv mw qw) := by
            rcases hp27 with ⟨_, hb, _⟩ | ⟨h1, _, h2⟩
            · exact absurd hb hnb
            · exact ⟨h1, h2⟩
          refine g_w (ws' := (wQ cI uq qf ++ (wA cI u nc nw tk ho ri lo mg pt bd cx cy ch rm on wx wy dm sv fv hd lf la ++ ((wCo cI a b d mg pt bd tk ho ri lo fv hd lf la ++ wSo cI cW a b r2 hp rl cn be bw wo) ++ wL cI cZ cG a r nc nw cx cy ch rm on wx wy dm sv mw qw)))) (by simp only [List.append_assoc]) ?_
          refine g_iload C dL_tells_114 rfl ?_
          refine g_if_eq C 132 dL_tells_116 (by decide) (fun _ => ?_) (fun c9 => absurd rfl c9)
          refine g_bipush C (-101) dL_tells_132 (by decide +kernel) ?_
          refine g_icmp_eq C 139 dL_tells_134 (by decide) (fun _ => ?_) (fun c9 => absurd rfl c9)
          refine g_iinc C (nI (j + 1)) [some (.ref (d 0)), some (.ref (u 0)), some (.ref (u 1)), some (.ref (u 2)), some (.ref uq), some (.int 0), some (.int (nI i)), some (.int 1), some (.int (nI (j + 1))), some (.int 0)] dL_tells_139 rfl (nI_1 j) (by decide) rfl rfl ?_
          refine g_goto C 46 dL_tells_142 (by decide) ?_
          refine g_mask [true, true, true, true, true, true, true, true, true, false] rfl ?_
          refine g_widen (k' := 1 + i * 44 + (j + 1) * 8) (n' := 16 + i * 264 + (j + 1) * 48) (by omega) (by omega) ?_
          exact jh (j + 1) mw qw (by omega) (by omega)
        · skip
          have c_64 : ¬ (nw ≤ j) := fun h9 => c_64 ((nI_leI (by omega) (by omega)).mpr h9)
          have hj : j < nw := by omega
          refine g_iconst C 1 dL_tells_67 (by decide +kernel) ?_
          refine g_goto C 72 dL_tells_68 (by decide) ?_
          refine g_istore C [some (.ref (d 0)), some (.ref (u 0)), some (.ref (u 1)), some (.ref (u 2)), some (.ref uq), some (.int 0), some (.int (nI i)), some (.int 1), some (.int (nI j)), some (.int 1)] dL_tells_72 (by decide) rfl rfl ?_
          refine g_aload_n C dL_tells_74 rfl ?_
          refine g_iconst C 0 dL_tells_75 (by decide +kernel) ?_
          refine g_iload C dL_tells_76 rfl ?_
          refine g_iload C dL_tells_78 rfl ?_
          refine gx_callH C hX (wQ cI uq qf ++ (wA cI u nc nw tk ho ri lo mg pt bd cx cy ch rm on wx wy dm sv fv hd lf la)) ((wCo cI a b d mg pt bd tk ho ri lo fv hd lf la ++ wSo cI cW a b r2 hp rl cn be bw wo) ++ wL cI cZ cG a r nc nw cx cy ch rm on wx wy dm sv mw qw) [.ref (d 0), .int 0, .int (nI i), .int (nI j)] (t_L_of_0 hl0 (by omega) (by omega) hJ.1.ihg) (vx_cwSW 4 C.ts gL_tells_L_of rfl rfl rfl (by decide +kernel) ⟨Nat.le_of_ble_eq_true rfl, Nat.le_of_ble_eq_true rfl⟩) rfl (by simp only [List.append_assoc]) rfl (Nat.le_of_ble_eq_true rfl) dL_tells_80 (rmL (by omega) (by omega)) (fun rv28 wv28 hp28 => ?_)
          obtain ⟨rfl, rfl⟩ : rv28 = sg cx cy wx wy i j ∧ wv28 = ((wCo cI a b d mg pt bd tk ho ri lo fv hd lf la ++ wSo cI cW a b r2 hp rl cn be bw wo) ++ wL cI cZ cG a r nc nw cx cy ch rm on wx wy dm sv mw qw) := by
            rcases hp28 with ⟨h1, _, h2⟩ | ⟨_, hb, _⟩
            · skip
              rw [hki, hkj] at h1
              exact ⟨h1, h2⟩
            · exact absurd ⟨⟨i, hi, rfl⟩, ⟨j, hj, rfl⟩⟩ hb
          refine g_w (ws' := (wQ cI uq qf ++ (wA cI u nc nw tk ho ri lo mg pt bd cx cy ch rm on wx wy dm sv fv hd lf la ++ ((wCo cI a b d mg pt bd tk ho ri lo fv hd lf la ++ wSo cI cW a b r2 hp rl cn be bw wo) ++ wL cI cZ cG a r nc nw cx cy ch rm on wx wy dm sv mw qw)))) (by simp only [List.append_assoc]) ?_
          refine g_iload C dL_tells_83 rfl ?_
          refine g_if_eq C 100 dL_tells_85 (by decide) (fun c9 => absurd c9 (by decide)) (fun _ => ?_)
          refine g_aload_n C dL_tells_88 rfl ?_
          refine g_aload_n C dL_tells_89 rfl ?_
          refine g_iload C dL_tells_90 rfl ?_
          refine g_iload C dL_tells_92 rfl ?_
          refine g_w (ws' := (((wQ cI uq qf) ++ (wA cI u nc nw tk ho ri lo mg pt bd cx cy ch rm on wx wy dm sv fv hd lf la)) ++ ((wCo cI a b d mg pt bd tk ho ri lo fv hd lf la ++ wSo cI cW a b r2 hp rl cn be bw wo) ++ wL cI cZ cG a r nc nw cx cy ch rm on wx wy dm sv mw qw))) (by simp only [List.append_assoc]) ?_
          refine g_swapA ?_
          refine g_callSi C ((wQ cI uq qf) ++ ((wCo cI a b d mg pt bd tk ho ri lo fv hd lf la ++ wSo cI cW a b r2 hp rl cn be bw wo) ++ wL cI cZ cG a r nc nw cx cy ch rm on wx wy dm sv mw qw)) (wA cI u nc nw tk ho ri lo mg pt bd cx cy ch rm on wx wy dm sv fv hd lf la) [.ref (u 1), .ref (u 2), .int (nI i), .int (nI j)] (t_L_signal (by omega) (by omega) (hJ.1.ihg i j hi hj)) (va_cwS 4 C.ts gL_tells_L_signal rfl rfl rfl (by decide +kernel) ⟨Nat.le_of_ble_eq_true rfl, Nat.le_of_ble_eq_true rfl⟩) rfl rfl rfl (Nat.le_of_ble_eq_true rfl) dL_tells_94 (rmL (by omega) (by omega)) (fun rv29 wv29 hp29 => ?_)
          obtain ⟨rfl, rfl⟩ := hp29
          refine g_swapA ?_
          refine g_w (ws' := (wQ cI uq qf ++ (wA cI u nc nw tk ho ri lo mg pt bd cx cy ch rm on wx wy dm sv fv hd lf la ++ ((wCo cI a b d mg pt bd tk ho ri lo fv hd lf la ++ wSo cI cW a b r2 hp rl cn be bw wo) ++ wL cI cZ cG a r nc nw cx cy ch rm on wx wy dm sv mw qw)))) (by simp only [List.append_assoc]) ?_
          refine g_goto C 102 dL_tells_97 (by decide) ?_
          refine g_icmp_ne C 137 dL_tells_102 (by decide) (fun c9 => absurd rfl c9) (fun _ => ?_)
          refine g_aload_n C dL_tells_105 rfl ?_
          refine g_iconst C 1 dL_tells_106 (by decide +kernel) ?_
          refine g_iload C dL_tells_107 rfl ?_
          refine g_iload C dL_tells_109 rfl ?_
          refine gx_callH C hX (wQ cI uq qf ++ (wA cI u nc nw tk ho ri lo mg pt bd cx cy ch rm on wx wy dm sv fv hd lf la)) ((wCo cI a b d mg pt bd tk ho ri lo fv hd lf la ++ wSo cI cW a b r2 hp rl cn be bw wo) ++ wL cI cZ cG a r nc nw cx cy ch rm on wx wy dm sv mw qw) [.ref (d 0), .int 1, .int (nI i), .int (nI j)] (t_L_of_1 hl0 (by omega) (by omega) hJ.1.ihr hJ.1.ihg (hJ.1.iGQ on sv mw)) (vx_cwSW 4 C.ts gL_tells_L_of rfl rfl rfl (by decide +kernel) ⟨Nat.le_of_ble_eq_true rfl, Nat.le_of_ble_eq_true rfl⟩) rfl (by simp only [List.append_assoc]) rfl (Nat.le_of_ble_eq_true rfl) dL_tells_111 (rmL (by omega) (by omega)) (fun rv30 wv30 hp30 => ?_)
          obtain ⟨rfl, rfl⟩ : rv30 = fqu cx cy ch on wx wy (fil nc (fus rm sv dm nw) mw) nc j i ∧ wv30 = ((wCo cI a b d mg pt bd tk ho ri lo fv hd lf la ++ wSo cI cW a b r2 hp rl cn be bw wo) ++ wL cI cZ cG a r nc nw cx cy ch rm on wx wy dm sv (fil nc (fus rm sv dm nw) mw) (fil2 nw nc (fun w c => fqu cx cy ch on wx wy (fil nc (fus rm sv dm nw) mw) nc w c) qw)) := by
            rcases hp30 with ⟨h1, _, h2⟩ | ⟨_, hb, _⟩
            · skip
              rw [hki, hkj] at h1
              exact ⟨h1, h2⟩
            · exact absurd ⟨⟨i, hi, rfl⟩, ⟨j, hj, rfl⟩⟩ hb
          refine g_w (ws' := (wQ cI uq qf ++ (wA cI u nc nw tk ho ri lo mg pt bd cx cy ch rm on wx wy dm sv fv hd lf la ++ ((wCo cI a b d mg pt bd tk ho ri lo fv hd lf la ++ wSo cI cW a b r2 hp rl cn be bw wo) ++ wL cI cZ cG a r nc nw cx cy ch rm on wx wy dm sv (fil nc (fus rm sv dm nw) mw) (fil2 nw nc (fun w c => fqu cx cy ch on wx wy (fil nc (fus rm sv dm nw) mw) nc w c) qw))))) (by simp only [List.append_assoc]) ?_
          refine g_iload C dL_tells_114 rfl ?_
          refine g_if_eq C 132 dL_tells_116 (by decide) (fun c9 => absurd c9 (by decide)) (fun _ => ?_)
          refine g_aload C dL_tells_119 rfl ?_
          refine g_iconst C 4 dL_tells_121 (by decide +kernel) ?_
          refine g_iload C dL_tells_122 rfl ?_
          refine g_imul C (nI (4 * i)) dL_tells_124 (nI_mk 4 i _ rfl) ?_
          refine g_iload C dL_tells_125 rfl ?_
          refine g_iadd C (nI (4 * i + j)) dL_tells_127 (nI_k (4 * i) j _ rfl) ?_
          refine g_iald C 0 0 rfl rfl (4 * i + j) rfl (by omega) (by decide) (fqu cx cy ch on wx wy (fil nc (fus rm sv dm nw) mw) nc j i) ((hqf i j hi hj).trans (fqu_cg (fun n hn => by show _ = if n < nc then _ else _; rw [if_pos hn]))) dL_tells_128 ?_
          refine g_goto C 134 dL_tells_129 (by decide) ?_
          refine g_icmp_eq C 139 dL_tells_134 (by decide) (fun _ => ?_) (fun c9 => absurd rfl c9)
          refine g_iinc C (nI (j + 1)) [some (.ref (d 0)), some (.ref (u 0)), some (.ref (u 1)), some (.ref (u 2)), some (.ref uq), some (.int 0), some (.int (nI i)), some (.int 1), some (.int (nI (j + 1))), some (.int 1)] dL_tells_139 rfl (nI_1 j) (by decide) rfl rfl ?_
          refine g_goto C 46 dL_tells_142 (by decide) ?_
          refine g_mask [true, true, true, true, true, true, true, true, true, false] rfl ?_
          refine g_widen (k' := 1 + i * 44 + (j + 1) * 8) (n' := 16 + i * 264 + (j + 1) * 48) (by omega) (by omega) ?_
          exact jh (j + 1) (fil nc (fus rm sv dm nw) mw) (fil2 nw nc (fun w c => fqu cx cy ch on wx wy (fil nc (fus rm sv dm nw) mw) nc w c) qw) (by omega) (by omega)
