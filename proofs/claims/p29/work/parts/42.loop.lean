/-! the law: its loop -/
section LW
variable {p : Program} {l : Launch} {e : Env} {s : State} {m : MethodId} {args : Array Value} {below : List Frame} {meth : Method} {c : Code} {D : va_G} {A : Nat → Prop} {Q : State → Prop}
variable {cI cZ cJ cG cW : ClassId} {u a b d r r2 : Nat → Nat} {bb L : Nat} {xs : Nat → Int32}
set_option maxHeartbeats 8000000 in
set_option maxRecDepth 100000 in
/-- a turn of the law's loop -/
theorem law_turn (C : CX p s m args meth c cL_law RL wsL_law D (T5 cI cZ cJ cG cW) A 10) (hl0 : l.stackTraces = false) (hX : XX A s s.heap) (hS : SCR A s bb L xs) {i k n : Nat} (hi : i < 90) (hk : k + 400 ≤ 801909) (hn : n + 2000 ≤ 6695897)
    (K : ∀ wv, ST cI cZ cG cW u a b d r r2 wv → G p l e room_1 s m args below meth c D A 10 Q (k + 400) (n + 2000) wv [some (.ref bb), some (.ref (d 0)), some (.ref (u 0)), some (.ref (u 1)), some (.ref (u 2)), some (.int (nI i)), none, none, none, none] 148 []) : ∀ wv, ST cI cZ cG cW u a b d r r2 wv → G p l e room_1 s m args below meth c D A 10 Q (k) (n) wv [some (.ref bb), some (.ref (d 0)), some (.ref (u 0)), some (.ref (u 1)), some (.ref (u 2)), some (.int (nI i)), none, none, none, none] 51 [] := by
  intro wv hW
  refine g_aload_n C dL_law_51 rfl ?_
  refine g_iload C dL_law_52 rfl ?_
  refine g_callR C hS [.ref bb, .int (nI i)] (t_L_cell hS.2.2.2 (by omega)) (va_cwS 2 C.ts gL_law_L_cell rfl rfl rfl (by decide +kernel) ⟨Nat.le_of_ble_eq_true rfl, Nat.le_of_ble_eq_true rfl⟩) rfl rfl (Nat.le_of_ble_eq_true rfl) dL_law_54 ⟨by show k + 0 ≤ 801909; omega, by show n + 0 ≤ 6695897; omega⟩ (fun v1 w1 hp1 => ?_)
  subst hp1
  refine g_w (ws' := wv) (List.append_nil _) ?_
  refine g_istore C [some (.ref bb), some (.ref (d 0)), some (.ref (u 0)), some (.ref (u 1)), some (.ref (u 2)), some (.int (nI i)), some (.int v1), none, none, none] dL_law_57 (by decide) rfl rfl ?_
  refine g_iload C dL_law_59 rfl ?_
  refine g_iconst C 4 dL_law_61 (by decide +kernel) ?_
  refine g_ishr C (v1 >>> (4 &&& 31)) dL_law_62 rfl ?_
  refine g_istore C [some (.ref bb), some (.ref (d 0)), some (.ref (u 0)), some (.ref (u 1)), some (.ref (u 2)), some (.int (nI i)), some (.int v1), some (.int (v1 >>> (4 &&& 31))), none, none] dL_law_63 (by decide) rfl rfl ?_
  refine g_iload C dL_law_65 rfl ?_
  refine g_bipush C 16 dL_law_67 (by decide +kernel) ?_
  refine g_callSi C wv [] [.int v1, .int 16] (t_L_some (by decide)) (va_cwS 2 C.ts gL_law_L_some rfl rfl rfl (by decide +kernel) ⟨Nat.le_of_ble_eq_true rfl, Nat.le_of_ble_eq_true rfl⟩) rfl (List.append_nil _).symm rfl (Nat.le_of_ble_eq_true rfl) dL_law_69 ⟨by show k + 0 + 0 ≤ 801909; omega, by show n + 0 + 0 ≤ 6695897; omega⟩ (fun v2 w2 hp2 => ?_)
  obtain ⟨_, rfl⟩ := hp2
  refine g_w (ws' := wv) (List.append_nil _) ?_
  refine g_istore C [some (.ref bb), some (.ref (d 0)), some (.ref (u 0)), some (.ref (u 1)), some (.ref (u 2)), some (.int (nI i)), some (.int v1), some (.int (v1 >>> (4 &&& 31))), some (.int v2), none] dL_law_72 (by decide) rfl rfl ?_
  refine g_join (σ := Int32) (fun _ => True) (fun _ => wv) (fun _ => [some (.ref bb), some (.ref (d 0)), some (.ref (u 0)), some (.ref (u 1)), some (.ref (u 2)), some (.int (nI i)), some (.int v1), some (.int (v1 >>> (4 &&& 31))), some (.int v2), none]) (fun x => [.int x, .ref (d 0)]) 98 k n (fun x _ => ?_) (fun J => ?_)
  · refine g_iload C dL_law_98 rfl ?_
    refine g_aload_n C dL_law_100 rfl ?_
    refine g_aload_n C dL_law_101 rfl ?_
    refine g_aload C dL_law_102 rfl ?_
    obtain ⟨nc, nw, tk, ho, ri, lo, mg, pt, bd, cx, cy, ch, rm, on, wx, wy, dm, sv, fv, hd, lf, la, hp, rl, cn, be, mu, bw, wo, qq, hJ0, rfl⟩ := hW
    refine gx_callN C hX [] (wA cI u nc nw tk ho ri lo mg pt bd cx cy ch rm on wx wy dm sv fv hd lf la ++ ((wCo cI a b d mg pt bd tk ho ri lo fv hd lf la ++ wSo cI cW a b r2 hp rl cn be bw wo) ++ wL cI cZ cG a r nc nw cx cy ch rm on wx wy dm sv mu qq)) [.ref (d 0), .int x, .int (v1 >>> (4 &&& 31)), .ref (u 0), .ref (u 1), .ref (u 2)] (t_L_acts hl0 hJ0) (va_cwS 6 C.ts gL_law_L_acts rfl rfl rfl (by decide +kernel) ⟨Nat.le_of_ble_eq_true rfl, Nat.le_of_ble_eq_true rfl⟩) rfl rfl rfl (Nat.le_of_ble_eq_true rfl) dL_law_104 ⟨by show k + 20 ≤ 801909; omega, by show n + 120 ≤ 6695897; omega⟩ (fun r0 wv1 hp0 => ?_)
    obtain ⟨rfl, hW1⟩ := hp0
    refine g_w (ws' := wv1) rfl ?_
    refine g_istore C [some (.ref bb), some (.ref (d 0)), some (.ref (u 0)), some (.ref (u 1)), some (.ref (u 2)), some (.int (nI i)), some (.int v1), some (.int (v1 >>> (4 &&& 31))), some (.int v2), some (.int 1)] dL_law_107 (by decide) rfl rfl ?_
    refine g_iload C dL_law_109 rfl ?_
    refine g_if_eq C 146 dL_law_111 (by decide) (fun c9 => absurd c9 (by decide)) (fun _ => ?_)
    refine g_aload_n C dL_law_114 rfl ?_
    refine g_aload_n C dL_law_115 rfl ?_
    refine g_aload_n C dL_law_116 rfl ?_
    refine g_aload C dL_law_117 rfl ?_
    obtain ⟨nc, nw, tk, ho, ri, lo, mg, pt, bd, cx, cy, ch, rm, on, wx, wy, dm, sv, fv, hd, lf, la, hp, rl, cn, be, mu, bw, wo, qq, hJ1, rfl⟩ := hW1
    refine gx_callN C hX [] (wA cI u nc nw tk ho ri lo mg pt bd cx cy ch rm on wx wy dm sv fv hd lf la ++ ((wCo cI a b d mg pt bd tk ho ri lo fv hd lf la ++ wSo cI cW a b r2 hp rl cn be bw wo) ++ wL cI cZ cG a r nc nw cx cy ch rm on wx wy dm sv mu qq)) [.ref (d 0), .ref (u 0), .ref (u 1), .ref (u 2)] (t_L_tells hl0 hJ1) (va_cwS 4 C.ts gL_law_L_tells rfl rfl rfl (by decide +kernel) ⟨Nat.le_of_ble_eq_true rfl, Nat.le_of_ble_eq_true rfl⟩) rfl rfl rfl (Nat.le_of_ble_eq_true rfl) dL_law_119 ⟨by show k + 20 + 300 ≤ 801909; omega, by show n + 120 + 1600 ≤ 6695897; omega⟩ (fun r1 wv2 hp1 => ?_)
    obtain ⟨rfl, hW2⟩ := hp1
    refine g_w (ws' := wv2) rfl ?_
    refine g_if_eq C 146 dL_law_122 (by decide) (fun c9 => absurd c9 (by decide)) (fun _ => ?_)
    refine g_iload C dL_law_125 rfl ?_
    refine g_bipush C 9 dL_law_127 (by decide +kernel) ?_
    refine g_irem C (nI i - nI i / 9 * 9) dL_law_129 (by decide) rfl ?_
    refine g_bipush C 8 dL_law_130 (by decide +kernel) ?_
    refine g_icmp_ne C 148 dL_law_132 (by decide) (fun _ => ?_) (fun _ => ?_)
    · refine g_mask [true, true, true, true, true, true, false, false, false, false] rfl ?_
      refine g_widen (k' := k + 400) (n' := n + 2000) (by omega) (by omega) ?_
      exact K _ hW2
    · refine g_aload_n C dL_law_135 rfl ?_
      refine g_aload_n C dL_law_136 rfl ?_
      refine g_aload_n C dL_law_137 rfl ?_
      refine g_aload C dL_law_138 rfl ?_
      obtain ⟨nc, nw, tk, ho, ri, lo, mg, pt, bd, cx, cy, ch, rm, on, wx, wy, dm, sv, fv, hd, lf, la, hp, rl, cn, be, mu, bw, wo, qq, hJ2, rfl⟩ := hW2
      refine gx_callN C hX [] (wA cI u nc nw tk ho ri lo mg pt bd cx cy ch rm on wx wy dm sv fv hd lf la ++ ((wCo cI a b d mg pt bd tk ho ri lo fv hd lf la ++ wSo cI cW a b r2 hp rl cn be bw wo) ++ wL cI cZ cG a r nc nw cx cy ch rm on wx wy dm sv mu qq)) [.ref (d 0), .ref (u 0), .ref (u 1), .ref (u 2)] (t_L_assigns hl0 hJ2) (va_cwS 4 C.ts gL_law_L_assigns rfl rfl rfl (by decide +kernel) ⟨Nat.le_of_ble_eq_true rfl, Nat.le_of_ble_eq_true rfl⟩) rfl rfl rfl (Nat.le_of_ble_eq_true rfl) dL_law_140 ⟨by show k + 20 + 300 + 20 ≤ 801909; omega, by show n + 120 + 1600 + 100 ≤ 6695897; omega⟩ (fun r2 wv3 hp2 => ?_)
      obtain ⟨rfl, hW3⟩ := hp2
      refine g_w (ws' := wv3) rfl ?_
      refine g_if_ne C 148 dL_law_143 (by decide) (fun _ => ?_) (fun c9 => absurd c9 (by decide))
      refine g_mask [true, true, true, true, true, true, false, false, false, false] rfl ?_
      refine g_widen (k' := k + 400) (n' := n + 2000) (by omega) (by omega) ?_
      exact K _ hW3
  · refine g_aload_n C dL_law_74 rfl ?_
    refine g_iload C dL_law_75 rfl ?_
    refine g_iconst C 3 dL_law_77 (by decide +kernel) ?_
    refine g_icmp_ge C 85 dL_law_78 (by decide) (fun _ => ?_) (fun _ => ?_)
    · refine g_iload C dL_law_85 rfl ?_
      refine g_bipush C 6 dL_law_87 (by decide +kernel) ?_
      refine g_icmp_ge C 96 dL_law_89 (by decide) (fun _ => ?_) (fun _ => ?_)
      · refine g_iload C dL_law_96 rfl ?_
        exact J v2 trivial
      · refine g_iconst C 1 dL_law_92 (by decide +kernel) ?_
        refine g_goto C 98 dL_law_93 (by decide) ?_
        exact J 1 trivial
    · refine g_iconst C 0 dL_law_81 (by decide +kernel) ?_
      refine g_goto C 98 dL_law_82 (by decide) ?_
      exact J 0 trivial
end LW
