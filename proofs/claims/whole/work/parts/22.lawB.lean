/-! the law's calls, one after another -/
section LAW
variable {p : Program} {l : Launch} {e : Env} {s : State} {m : MethodId} {args : Array Value} {below : List Frame} {meth : Method} {c : Code} {D : va_G} {A : Nat → Prop} {Q : State → Prop}
variable {cI : ClassId} {cZ : ClassId} {cJ : ClassId} {cG : ClassId} {cW : ClassId} {a : Nat → Nat} {b : Nat → Nat} {d : Nat → Nat} {q : Nat → Nat} {r : Nat → Nat} {r2 : Nat → Nat} {o : Nat} {bb L i k n : Nat} {xs : Nat → Int32}
set_option maxHeartbeats 1000000 in
set_option maxRecDepth 100000 in
theorem law_margin (C : CX p s m args meth c cL_law RL wsL_law D (T5 cI cZ cJ cG cW) A 7) (hl0 : l.stackTraces = false) (hX : XX A s s.heap) (hS : SCR A s bb L xs) (hi : i + 4 < L) (hkn : k + 10 ≤ 669564 ∧ n + 60 ≤ 7087412)
    (K : LK p l e s m args below meth c D A Q cI cZ cJ cG cW a b d q r r2 o (k + 10) (n + 60) [some (.ref bb), some (.ref (d 0)), some (.ref (q 0)), some (.ref o), some (.int (nI i)), none, none] 1332) : LK p l e s m args below meth c D A Q cI cZ cJ cG cW a b d q r r2 o k n [some (.ref bb), some (.ref (d 0)), some (.ref (q 0)), some (.ref o), some (.int (nI i)), none, none] 519 := by
  intro nc nw cx cy ch rm on wx wy dm sv fv hd lf la mg pt bd tk ho ri lo hp rl cn be bw wo mu qq ot us gv bs ld qs mS mD th hI
  refine g_aload_n C dL_law_519 rfl ?_
  refine g_aload_n C dL_law_520 rfl ?_
  refine g_iload C dL_law_521 rfl ?_
  refine g_iconst C 1 dL_law_523 (by decide +kernel) ?_
  refine g_iadd C (nI (i + 1)) dL_law_524 (nI_add i 1) ?_
  refine g_sld C hS (i + 1) rfl (by omega) dL_law_525 ?_
  refine g_aload_n C dL_law_526 rfl ?_
  refine gx_callH C hX (wM cI cZ q nc nw cx cy ch rm on wx wy dm sv fv hd lf la mg pt bd tk ho ri lo us gv bs ld qs mS mD th) (wO cJ o ot ++ ((wCo cI a b d mg pt bd tk ho ri lo fv hd lf la ++ wSo cI cW a b r2 hp rl cn be bw wo) ++ wL cI cZ cG a r nc nw cx cy ch rm on wx wy dm sv mu qq)) [.ref (d 0), .int (xs (i + 1)), .ref o] (t_L_margin hl0) (vx_cwSW 3 C.ts gL_law_L_margin rfl rfl rfl (by decide +kernel) ⟨Nat.le_of_ble_eq_true rfl, Nat.le_of_ble_eq_true rfl⟩) rfl rfl rfl (Nat.le_of_ble_eq_true rfl) dL_law_527 (rm_ok hkn (by decide) (by decide)) (fun r1v w1 hp1 => ?_)
  refine g_widen (k' := k + 10) (n' := n + 60) (by omega) (by omega) ?_
  obtain ⟨rfl, H0, rfl⟩ | ⟨rfl, H1, rfl⟩ := hp1
  · skip
    refine g_istore C [some (.ref bb), some (.ref (d 0)), some (.ref (q 0)), some (.ref o), some (.int (nI i)), some (.int 0), none] dL_law_530 (by decide) rfl rfl ?_
    refine g_aload_n C dL_law_532 rfl ?_
    refine g_aload_n C dL_law_533 rfl ?_
    refine g_iload C dL_law_534 rfl ?_
    refine g_iconst C 1 dL_law_536 (by decide +kernel) ?_
    refine g_iadd C (nI (i + 1)) dL_law_537 (nI_add i 1) ?_
    refine g_sld C hS (i + 1) rfl (by omega) dL_law_538 ?_
    refine g_swap ?_
    refine g_callVi C (wO cJ o (vp_updL ot 0 (Int32.toInt64 mg)) ++ ((wCo cI a b d ((xs (i + 1))) pt bd tk ho ri lo fv hd lf la ++ wSo cI cW a b r2 hp rl cn be bw wo) ++ wL cI cZ cG a r nc nw cx cy ch rm on wx wy dm sv mu qq)) (wM cI cZ q nc nw cx cy ch rm on wx wy dm sv fv hd lf la mg pt bd tk ho ri lo us gv bs ld qs mS mD th) [.int (xs (i + 1))] (t_X3_margin) rfl rfl (cwV 1 C.ts gL_law_X3_margin rfl rfl rfl (by decide +kernel) ⟨Nat.le_of_ble_eq_true rfl, Nat.le_of_ble_eq_true rfl⟩) rfl rfl rfl (Nat.le_of_ble_eq_true rfl) dL_law_539 (rm_0 hkn) (fun r2v w2 hp2 => ?_)
    obtain ⟨M0, hr2, rfl⟩ | ⟨M1, rfl⟩ := hp2
    · skip
      refine g_istore C [some (.ref bb), some (.ref (d 0)), some (.ref (q 0)), some (.ref o), some (.int (nI i)), some (.int 0), some (.int r2v)] dL_law_542 (by decide) rfl rfl ?_
      refine g_aload_n C dL_law_544 rfl ?_
      refine g_callVi C (wO cJ o (vp_updL ot 0 (Int32.toInt64 mg)) ++ ((wCo cI a b d ((xs (i + 1))) pt bd tk ho ri lo fv hd lf la ++ wSo cI cW a b r2 hp rl cn be bw wo) ++ wL cI cZ cG a r nc nw cx cy ch rm on wx wy dm sv mu qq)) (wM cI cZ q nc nw cx cy ch rm on wx wy dm sv fv hd lf la ((xs (i + 1))) pt bd tk ho ri lo us gv bs ld qs mS mD 0) [] t_X3_thrown rfl rfl (cwV 0 C.ts gL_law_X3_thrown rfl rfl rfl (by decide +kernel) ⟨Nat.le_of_ble_eq_true rfl, Nat.le_of_ble_eq_true rfl⟩) rfl rfl rfl (Nat.le_of_ble_eq_true rfl) dL_law_545 (rm_0 hkn) (fun r3v w3 hp3 => ?_)
      obtain ⟨rfl, rfl⟩ := hp3
      refine g_iload C dL_law_548 rfl ?_
      refine g_icmp_eq C 555 dL_law_550 (by decide) (fun _ => ?_) (fun c9 => absurd rfl c9)
      refine g_iload C dL_law_555 rfl ?_
      refine g_if_ne C 572 dL_law_557 (by decide) (fun c9 => absurd rfl c9) (fun _ => ?_)
      refine g_aload_n C dL_law_560 rfl ?_
      refine g_iconst C 0 dL_law_561 (by decide +kernel) ?_
      refine g_lald C 0 2 rfl rfl 0 rfl (by decide) (by decide) (Int32.toInt64 mg) rfl dL_law_562 ?_
      refine g_iload C dL_law_563 rfl ?_
      refine g_i2l C (Int32.toInt64 r2v) dL_law_565 rfl ?_
      refine g_lcmp C dL_law_566 ?_
      refine g_if_eq C 572 dL_law_567 (by decide) (fun _ => ?_) (fun c9 => absurd (lc_eq hr2.symm) c9)
      refine g_goto C 1332 dL_law_572 (by decide) ?_
      refine g_swap ?_
      refine g_mask [true, true, true, true, true, false, false] rfl ?_
      exact K _ _ _ _ _ _ _ _ _ _ _ _ _ _ _ _ _ _ _ _ _ _ _ _ _ _ _ _ _ _ _ _ _ _ _ _ _ _ _ hI
    · exact absurd (H0) (M1)
  · skip
    refine g_istore C [some (.ref bb), some (.ref (d 0)), some (.ref (q 0)), some (.ref o), some (.int (nI i)), some (.int 1), none] dL_law_530 (by decide) rfl rfl ?_
    refine g_aload_n C dL_law_532 rfl ?_
    refine g_aload_n C dL_law_533 rfl ?_
    refine g_iload C dL_law_534 rfl ?_
    refine g_iconst C 1 dL_law_536 (by decide +kernel) ?_
    refine g_iadd C (nI (i + 1)) dL_law_537 (nI_add i 1) ?_
    refine g_sld C hS (i + 1) rfl (by omega) dL_law_538 ?_
    refine g_swap ?_
    refine g_callVi C (wO cJ o ot ++ ((wCo cI a b d mg pt bd tk ho ri lo fv hd lf la ++ wSo cI cW a b r2 hp rl cn be bw wo) ++ wL cI cZ cG a r nc nw cx cy ch rm on wx wy dm sv mu qq)) (wM cI cZ q nc nw cx cy ch rm on wx wy dm sv fv hd lf la mg pt bd tk ho ri lo us gv bs ld qs mS mD th) [.int (xs (i + 1))] (t_X3_margin) rfl rfl (cwV 1 C.ts gL_law_X3_margin rfl rfl rfl (by decide +kernel) ⟨Nat.le_of_ble_eq_true rfl, Nat.le_of_ble_eq_true rfl⟩) rfl rfl rfl (Nat.le_of_ble_eq_true rfl) dL_law_539 (rm_0 hkn) (fun r2v w2 hp2 => ?_)
    obtain ⟨M0, hr2, rfl⟩ | ⟨M1, rfl⟩ := hp2
    · exact absurd (M0) (H1)
    · skip
      refine g_istore C [some (.ref bb), some (.ref (d 0)), some (.ref (q 0)), some (.ref o), some (.int (nI i)), some (.int 1), some (.int r2v)] dL_law_542 (by decide) rfl rfl ?_
      refine g_aload_n C dL_law_544 rfl ?_
      refine g_callVi C (wO cJ o ot ++ ((wCo cI a b d mg pt bd tk ho ri lo fv hd lf la ++ wSo cI cW a b r2 hp rl cn be bw wo) ++ wL cI cZ cG a r nc nw cx cy ch rm on wx wy dm sv mu qq)) (wM cI cZ q nc nw cx cy ch rm on wx wy dm sv fv hd lf la mg pt bd tk ho ri lo us gv bs ld qs mS mD 1) [] t_X3_thrown rfl rfl (cwV 0 C.ts gL_law_X3_thrown rfl rfl rfl (by decide +kernel) ⟨Nat.le_of_ble_eq_true rfl, Nat.le_of_ble_eq_true rfl⟩) rfl rfl rfl (Nat.le_of_ble_eq_true rfl) dL_law_545 (rm_0 hkn) (fun r3v w3 hp3 => ?_)
      obtain ⟨rfl, rfl⟩ := hp3
      refine g_iload C dL_law_548 rfl ?_
      refine g_icmp_eq C 555 dL_law_550 (by decide) (fun _ => ?_) (fun c9 => absurd rfl c9)
      refine g_iload C dL_law_555 rfl ?_
      refine g_if_ne C 572 dL_law_557 (by decide) (fun _ => ?_) (fun c9 => absurd c9 (by decide))
      refine g_goto C 1332 dL_law_572 (by decide) ?_
      refine g_swap ?_
      refine g_mask [true, true, true, true, true, false, false] rfl ?_
      exact K _ _ _ _ _ _ _ _ _ _ _ _ _ _ _ _ _ _ _ _ _ _ _ _ _ _ _ _ _ _ _ _ _ _ _ _ _ _ _ hI
set_option maxHeartbeats 1000000 in
set_option maxRecDepth 100000 in
theorem law_patience (C : CX p s m args meth c cL_law RL wsL_law D (T5 cI cZ cJ cG cW) A 7) (hl0 : l.stackTraces = false) (hX : XX A s s.heap) (hS : SCR A s bb L xs) (hi : i + 4 < L) (hkn : k + 10 ≤ 669564 ∧ n + 60 ≤ 7087412)
    (K : LK p l e s m args below meth c D A Q cI cZ cJ cG cW a b d q r r2 o (k + 10) (n + 60) [some (.ref bb), some (.ref (d 0)), some (.ref (q 0)), some (.ref o), some (.int (nI i)), none, none] 1332) : LK p l e s m args below meth c D A Q cI cZ cJ cG cW a b d q r r2 o k n [some (.ref bb), some (.ref (d 0)), some (.ref (q 0)), some (.ref o), some (.int (nI i)), none, none] 575 := by
  intro nc nw cx cy ch rm on wx wy dm sv fv hd lf la mg pt bd tk ho ri lo hp rl cn be bw wo mu qq ot us gv bs ld qs mS mD th hI
  refine g_aload_n C dL_law_575 rfl ?_
  refine g_aload_n C dL_law_576 rfl ?_
  refine g_iload C dL_law_577 rfl ?_
  refine g_iconst C 1 dL_law_579 (by decide +kernel) ?_
  refine g_iadd C (nI (i + 1)) dL_law_580 (nI_add i 1) ?_
  refine g_sld C hS (i + 1) rfl (by omega) dL_law_581 ?_
  refine g_aload_n C dL_law_582 rfl ?_
  refine gx_callH C hX (wM cI cZ q nc nw cx cy ch rm on wx wy dm sv fv hd lf la mg pt bd tk ho ri lo us gv bs ld qs mS mD th) (wO cJ o ot ++ ((wCo cI a b d mg pt bd tk ho ri lo fv hd lf la ++ wSo cI cW a b r2 hp rl cn be bw wo) ++ wL cI cZ cG a r nc nw cx cy ch rm on wx wy dm sv mu qq)) [.ref (d 0), .int (xs (i + 1)), .ref o] (t_L_patience hl0) (vx_cwSW 3 C.ts gL_law_L_patience rfl rfl rfl (by decide +kernel) ⟨Nat.le_of_ble_eq_true rfl, Nat.le_of_ble_eq_true rfl⟩) rfl rfl rfl (Nat.le_of_ble_eq_true rfl) dL_law_583 (rm_ok hkn (by decide) (by decide)) (fun r1v w1 hp1 => ?_)
  refine g_widen (k' := k + 10) (n' := n + 60) (by omega) (by omega) ?_
  obtain ⟨rfl, H0, rfl⟩ | ⟨rfl, H1, rfl⟩ := hp1
  · skip
    refine g_istore C [some (.ref bb), some (.ref (d 0)), some (.ref (q 0)), some (.ref o), some (.int (nI i)), some (.int 0), none] dL_law_586 (by decide) rfl rfl ?_
    refine g_aload_n C dL_law_588 rfl ?_
    refine g_aload_n C dL_law_589 rfl ?_
    refine g_iload C dL_law_590 rfl ?_
    refine g_iconst C 1 dL_law_592 (by decide +kernel) ?_
    refine g_iadd C (nI (i + 1)) dL_law_593 (nI_add i 1) ?_
    refine g_sld C hS (i + 1) rfl (by omega) dL_law_594 ?_
    refine g_swap ?_
    refine g_callVi C (wO cJ o (vp_updL ot 0 (Int32.toInt64 pt)) ++ ((wCo cI a b d mg ((xs (i + 1))) bd tk ho ri lo fv hd lf la ++ wSo cI cW a b r2 hp rl cn be bw wo) ++ wL cI cZ cG a r nc nw cx cy ch rm on wx wy dm sv mu qq)) (wM cI cZ q nc nw cx cy ch rm on wx wy dm sv fv hd lf la mg pt bd tk ho ri lo us gv bs ld qs mS mD th) [.int (xs (i + 1))] (t_X3_patience) rfl rfl (cwV 1 C.ts gL_law_X3_patience rfl rfl rfl (by decide +kernel) ⟨Nat.le_of_ble_eq_true rfl, Nat.le_of_ble_eq_true rfl⟩) rfl rfl rfl (Nat.le_of_ble_eq_true rfl) dL_law_595 (rm_0 hkn) (fun r2v w2 hp2 => ?_)
    obtain ⟨M0, hr2, rfl⟩ | ⟨M1, rfl⟩ := hp2
    · skip
      refine g_istore C [some (.ref bb), some (.ref (d 0)), some (.ref (q 0)), some (.ref o), some (.int (nI i)), some (.int 0), some (.int r2v)] dL_law_598 (by decide) rfl rfl ?_
      refine g_aload_n C dL_law_600 rfl ?_
      refine g_callVi C (wO cJ o (vp_updL ot 0 (Int32.toInt64 pt)) ++ ((wCo cI a b d mg ((xs (i + 1))) bd tk ho ri lo fv hd lf la ++ wSo cI cW a b r2 hp rl cn be bw wo) ++ wL cI cZ cG a r nc nw cx cy ch rm on wx wy dm sv mu qq)) (wM cI cZ q nc nw cx cy ch rm on wx wy dm sv fv hd lf la mg ((xs (i + 1))) bd tk ho ri lo us gv bs ld qs mS mD 0) [] t_X3_thrown rfl rfl (cwV 0 C.ts gL_law_X3_thrown rfl rfl rfl (by decide +kernel) ⟨Nat.le_of_ble_eq_true rfl, Nat.le_of_ble_eq_true rfl⟩) rfl rfl rfl (Nat.le_of_ble_eq_true rfl) dL_law_601 (rm_0 hkn) (fun r3v w3 hp3 => ?_)
      obtain ⟨rfl, rfl⟩ := hp3
      refine g_iload C dL_law_604 rfl ?_
      refine g_icmp_eq C 611 dL_law_606 (by decide) (fun _ => ?_) (fun c9 => absurd rfl c9)
      refine g_iload C dL_law_611 rfl ?_
      refine g_if_ne C 628 dL_law_613 (by decide) (fun c9 => absurd rfl c9) (fun _ => ?_)
      refine g_aload_n C dL_law_616 rfl ?_
      refine g_iconst C 0 dL_law_617 (by decide +kernel) ?_
      refine g_lald C 0 2 rfl rfl 0 rfl (by decide) (by decide) (Int32.toInt64 pt) rfl dL_law_618 ?_
      refine g_iload C dL_law_619 rfl ?_
      refine g_i2l C (Int32.toInt64 r2v) dL_law_621 rfl ?_
      refine g_lcmp C dL_law_622 ?_
      refine g_if_eq C 628 dL_law_623 (by decide) (fun _ => ?_) (fun c9 => absurd (lc_eq hr2.symm) c9)
      refine g_goto C 1332 dL_law_628 (by decide) ?_
      refine g_swap ?_
      refine g_mask [true, true, true, true, true, false, false] rfl ?_
      exact K _ _ _ _ _ _ _ _ _ _ _ _ _ _ _ _ _ _ _ _ _ _ _ _ _ _ _ _ _ _ _ _ _ _ _ _ _ _ _ hI
    · exact absurd (H0) (M1)
  · skip
    refine g_istore C [some (.ref bb), some (.ref (d 0)), some (.ref (q 0)), some (.ref o), some (.int (nI i)), some (.int 1), none] dL_law_586 (by decide) rfl rfl ?_
    refine g_aload_n C dL_law_588 rfl ?_
    refine g_aload_n C dL_law_589 rfl ?_
    refine g_iload C dL_law_590 rfl ?_
    refine g_iconst C 1 dL_law_592 (by decide +kernel) ?_
    refine g_iadd C (nI (i + 1)) dL_law_593 (nI_add i 1) ?_
    refine g_sld C hS (i + 1) rfl (by omega) dL_law_594 ?_
    refine g_swap ?_
    refine g_callVi C (wO cJ o ot ++ ((wCo cI a b d mg pt bd tk ho ri lo fv hd lf la ++ wSo cI cW a b r2 hp rl cn be bw wo) ++ wL cI cZ cG a r nc nw cx cy ch rm on wx wy dm sv mu qq)) (wM cI cZ q nc nw cx cy ch rm on wx wy dm sv fv hd lf la mg pt bd tk ho ri lo us gv bs ld qs mS mD th) [.int (xs (i + 1))] (t_X3_patience) rfl rfl (cwV 1 C.ts gL_law_X3_patience rfl rfl rfl (by decide +kernel) ⟨Nat.le_of_ble_eq_true rfl, Nat.le_of_ble_eq_true rfl⟩) rfl rfl rfl (Nat.le_of_ble_eq_true rfl) dL_law_595 (rm_0 hkn) (fun r2v w2 hp2 => ?_)
    obtain ⟨M0, hr2, rfl⟩ | ⟨M1, rfl⟩ := hp2
    · exact absurd (M0) (H1)
    · skip
      refine g_istore C [some (.ref bb), some (.ref (d 0)), some (.ref (q 0)), some (.ref o), some (.int (nI i)), some (.int 1), some (.int r2v)] dL_law_598 (by decide) rfl rfl ?_
      refine g_aload_n C dL_law_600 rfl ?_
      refine g_callVi C (wO cJ o ot ++ ((wCo cI a b d mg pt bd tk ho ri lo fv hd lf la ++ wSo cI cW a b r2 hp rl cn be bw wo) ++ wL cI cZ cG a r nc nw cx cy ch rm on wx wy dm sv mu qq)) (wM cI cZ q nc nw cx cy ch rm on wx wy dm sv fv hd lf la mg pt bd tk ho ri lo us gv bs ld qs mS mD 1) [] t_X3_thrown rfl rfl (cwV 0 C.ts gL_law_X3_thrown rfl rfl rfl (by decide +kernel) ⟨Nat.le_of_ble_eq_true rfl, Nat.le_of_ble_eq_true rfl⟩) rfl rfl rfl (Nat.le_of_ble_eq_true rfl) dL_law_601 (rm_0 hkn) (fun r3v w3 hp3 => ?_)
      obtain ⟨rfl, rfl⟩ := hp3
      refine g_iload C dL_law_604 rfl ?_
      refine g_icmp_eq C 611 dL_law_606 (by decide) (fun _ => ?_) (fun c9 => absurd rfl c9)
      refine g_iload C dL_law_611 rfl ?_
      refine g_if_ne C 628 dL_law_613 (by decide) (fun _ => ?_) (fun c9 => absurd c9 (by decide))
      refine g_goto C 1332 dL_law_628 (by decide) ?_
      refine g_swap ?_
      refine g_mask [true, true, true, true, true, false, false] rfl ?_
      exact K _ _ _ _ _ _ _ _ _ _ _ _ _ _ _ _ _ _ _ _ _ _ _ _ _ _ _ _ _ _ _ _ _ _ _ _ _ _ _ hI
set_option maxHeartbeats 1000000 in
set_option maxRecDepth 100000 in
theorem law_bound (C : CX p s m args meth c cL_law RL wsL_law D (T5 cI cZ cJ cG cW) A 7) (hl0 : l.stackTraces = false) (hX : XX A s s.heap) (hS : SCR A s bb L xs) (hi : i + 4 < L) (hkn : k + 10 ≤ 669564 ∧ n + 60 ≤ 7087412)
    (K : LK p l e s m args below meth c D A Q cI cZ cJ cG cW a b d q r r2 o (k + 10) (n + 60) [some (.ref bb), some (.ref (d 0)), some (.ref (q 0)), some (.ref o), some (.int (nI i)), none, none] 1332) : LK p l e s m args below meth c D A Q cI cZ cJ cG cW a b d q r r2 o k n [some (.ref bb), some (.ref (d 0)), some (.ref (q 0)), some (.ref o), some (.int (nI i)), none, none] 631 := by
  intro nc nw cx cy ch rm on wx wy dm sv fv hd lf la mg pt bd tk ho ri lo hp rl cn be bw wo mu qq ot us gv bs ld qs mS mD th hI
  refine g_aload_n C dL_law_631 rfl ?_
  refine g_aload_n C dL_law_632 rfl ?_
  refine g_iload C dL_law_633 rfl ?_
  refine g_iconst C 1 dL_law_635 (by decide +kernel) ?_
  refine g_iadd C (nI (i + 1)) dL_law_636 (nI_add i 1) ?_
  refine g_sld C hS (i + 1) rfl (by omega) dL_law_637 ?_
  refine g_aload_n C dL_law_638 rfl ?_
  refine gx_callH C hX (wM cI cZ q nc nw cx cy ch rm on wx wy dm sv fv hd lf la mg pt bd tk ho ri lo us gv bs ld qs mS mD th) (wO cJ o ot ++ ((wCo cI a b d mg pt bd tk ho ri lo fv hd lf la ++ wSo cI cW a b r2 hp rl cn be bw wo) ++ wL cI cZ cG a r nc nw cx cy ch rm on wx wy dm sv mu qq)) [.ref (d 0), .int (xs (i + 1)), .ref o] (t_L_bound hl0) (vx_cwSW 3 C.ts gL_law_L_bound rfl rfl rfl (by decide +kernel) ⟨Nat.le_of_ble_eq_true rfl, Nat.le_of_ble_eq_true rfl⟩) rfl rfl rfl (Nat.le_of_ble_eq_true rfl) dL_law_639 (rm_ok hkn (by decide) (by decide)) (fun r1v w1 hp1 => ?_)
  refine g_widen (k' := k + 10) (n' := n + 60) (by omega) (by omega) ?_
  obtain ⟨rfl, H0, rfl⟩ | ⟨rfl, H1, rfl⟩ := hp1
  · skip
    refine g_istore C [some (.ref bb), some (.ref (d 0)), some (.ref (q 0)), some (.ref o), some (.int (nI i)), some (.int 0), none] dL_law_642 (by decide) rfl rfl ?_
    refine g_aload_n C dL_law_644 rfl ?_
    refine g_aload_n C dL_law_645 rfl ?_
    refine g_iload C dL_law_646 rfl ?_
    refine g_iconst C 1 dL_law_648 (by decide +kernel) ?_
    refine g_iadd C (nI (i + 1)) dL_law_649 (nI_add i 1) ?_
    refine g_sld C hS (i + 1) rfl (by omega) dL_law_650 ?_
    refine g_swap ?_
    refine g_callVi C (wO cJ o (vp_updL ot 0 (Int32.toInt64 bd)) ++ ((wCo cI a b d mg pt ((xs (i + 1))) tk ho ri lo fv hd lf la ++ wSo cI cW a b r2 hp rl cn be bw wo) ++ wL cI cZ cG a r nc nw cx cy ch rm on wx wy dm sv mu qq)) (wM cI cZ q nc nw cx cy ch rm on wx wy dm sv fv hd lf la mg pt bd tk ho ri lo us gv bs ld qs mS mD th) [.int (xs (i + 1))] (t_X3_bound) rfl rfl (cwV 1 C.ts gL_law_X3_bound rfl rfl rfl (by decide +kernel) ⟨Nat.le_of_ble_eq_true rfl, Nat.le_of_ble_eq_true rfl⟩) rfl rfl rfl (Nat.le_of_ble_eq_true rfl) dL_law_651 (rm_0 hkn) (fun r2v w2 hp2 => ?_)
    obtain ⟨M0, hr2, rfl⟩ | ⟨M1, rfl⟩ := hp2
    · skip
      refine g_istore C [some (.ref bb), some (.ref (d 0)), some (.ref (q 0)), some (.ref o), some (.int (nI i)), some (.int 0), some (.int r2v)] dL_law_654 (by decide) rfl rfl ?_
      refine g_aload_n C dL_law_656 rfl ?_
      refine g_callVi C (wO cJ o (vp_updL ot 0 (Int32.toInt64 bd)) ++ ((wCo cI a b d mg pt ((xs (i + 1))) tk ho ri lo fv hd lf la ++ wSo cI cW a b r2 hp rl cn be bw wo) ++ wL cI cZ cG a r nc nw cx cy ch rm on wx wy dm sv mu qq)) (wM cI cZ q nc nw cx cy ch rm on wx wy dm sv fv hd lf la mg pt ((xs (i + 1))) tk ho ri lo us gv bs ld qs mS mD 0) [] t_X3_thrown rfl rfl (cwV 0 C.ts gL_law_X3_thrown rfl rfl rfl (by decide +kernel) ⟨Nat.le_of_ble_eq_true rfl, Nat.le_of_ble_eq_true rfl⟩) rfl rfl rfl (Nat.le_of_ble_eq_true rfl) dL_law_657 (rm_0 hkn) (fun r3v w3 hp3 => ?_)
      obtain ⟨rfl, rfl⟩ := hp3
      refine g_iload C dL_law_660 rfl ?_
      refine g_icmp_eq C 667 dL_law_662 (by decide) (fun _ => ?_) (fun c9 => absurd rfl c9)
      refine g_iload C dL_law_667 rfl ?_
      refine g_if_ne C 684 dL_law_669 (by decide) (fun c9 => absurd rfl c9) (fun _ => ?_)
      refine g_aload_n C dL_law_672 rfl ?_
      refine g_iconst C 0 dL_law_673 (by decide +kernel) ?_
      refine g_lald C 0 2 rfl rfl 0 rfl (by decide) (by decide) (Int32.toInt64 bd) rfl dL_law_674 ?_
      refine g_iload C dL_law_675 rfl ?_
      refine g_i2l C (Int32.toInt64 r2v) dL_law_677 rfl ?_
      refine g_lcmp C dL_law_678 ?_
      refine g_if_eq C 684 dL_law_679 (by decide) (fun _ => ?_) (fun c9 => absurd (lc_eq hr2.symm) c9)
      refine g_goto C 1332 dL_law_684 (by decide) ?_
      refine g_swap ?_
      refine g_mask [true, true, true, true, true, false, false] rfl ?_
      exact K _ _ _ _ _ _ _ _ _ _ _ _ _ _ _ _ _ _ _ _ _ _ _ _ _ _ _ _ _ _ _ _ _ _ _ _ _ _ _ hI
    · exact absurd (H0) (M1)
  · skip
    refine g_istore C [some (.ref bb), some (.ref (d 0)), some (.ref (q 0)), some (.ref o), some (.int (nI i)), some (.int 1), none] dL_law_642 (by decide) rfl rfl ?_
    refine g_aload_n C dL_law_644 rfl ?_
    refine g_aload_n C dL_law_645 rfl ?_
    refine g_iload C dL_law_646 rfl ?_
    refine g_iconst C 1 dL_law_648 (by decide +kernel) ?_
    refine g_iadd C (nI (i + 1)) dL_law_649 (nI_add i 1) ?_
    refine g_sld C hS (i + 1) rfl (by omega) dL_law_650 ?_
    refine g_swap ?_
    refine g_callVi C (wO cJ o ot ++ ((wCo cI a b d mg pt bd tk ho ri lo fv hd lf la ++ wSo cI cW a b r2 hp rl cn be bw wo) ++ wL cI cZ cG a r nc nw cx cy ch rm on wx wy dm sv mu qq)) (wM cI cZ q nc nw cx cy ch rm on wx wy dm sv fv hd lf la mg pt bd tk ho ri lo us gv bs ld qs mS mD th) [.int (xs (i + 1))] (t_X3_bound) rfl rfl (cwV 1 C.ts gL_law_X3_bound rfl rfl rfl (by decide +kernel) ⟨Nat.le_of_ble_eq_true rfl, Nat.le_of_ble_eq_true rfl⟩) rfl rfl rfl (Nat.le_of_ble_eq_true rfl) dL_law_651 (rm_0 hkn) (fun r2v w2 hp2 => ?_)
    obtain ⟨M0, hr2, rfl⟩ | ⟨M1, rfl⟩ := hp2
    · exact absurd (M0) (H1)
    · skip
      refine g_istore C [some (.ref bb), some (.ref (d 0)), some (.ref (q 0)), some (.ref o), some (.int (nI i)), some (.int 1), some (.int r2v)] dL_law_654 (by decide) rfl rfl ?_
      refine g_aload_n C dL_law_656 rfl ?_
      refine g_callVi C (wO cJ o ot ++ ((wCo cI a b d mg pt bd tk ho ri lo fv hd lf la ++ wSo cI cW a b r2 hp rl cn be bw wo) ++ wL cI cZ cG a r nc nw cx cy ch rm on wx wy dm sv mu qq)) (wM cI cZ q nc nw cx cy ch rm on wx wy dm sv fv hd lf la mg pt bd tk ho ri lo us gv bs ld qs mS mD 1) [] t_X3_thrown rfl rfl (cwV 0 C.ts gL_law_X3_thrown rfl rfl rfl (by decide +kernel) ⟨Nat.le_of_ble_eq_true rfl, Nat.le_of_ble_eq_true rfl⟩) rfl rfl rfl (Nat.le_of_ble_eq_true rfl) dL_law_657 (rm_0 hkn) (fun r3v w3 hp3 => ?_)
      obtain ⟨rfl, rfl⟩ := hp3
      refine g_iload C dL_law_660 rfl ?_
      refine g_icmp_eq C 667 dL_law_662 (by decide) (fun _ => ?_) (fun c9 => absurd rfl c9)
      refine g_iload C dL_law_667 rfl ?_
      refine g_if_ne C 684 dL_law_669 (by decide) (fun _ => ?_) (fun c9 => absurd c9 (by decide))
      refine g_goto C 1332 dL_law_684 (by decide) ?_
      refine g_swap ?_
      refine g_mask [true, true, true, true, true, false, false] rfl ?_
      exact K _ _ _ _ _ _ _ _ _ _ _ _ _ _ _ _ _ _ _ _ _ _ _ _ _ _ _ _ _ _ _ _ _ _ _ _ _ _ _ hI
set_option maxHeartbeats 1000000 in
set_option maxRecDepth 100000 in
theorem law_tick (C : CX p s m args meth c cL_law RL wsL_law D (T5 cI cZ cJ cG cW) A 7) (hl0 : l.stackTraces = false) (hX : XX A s s.heap) (hS : SCR A s bb L xs) (hi : i + 4 < L) (hkn : k + 10 ≤ 669564 ∧ n + 60 ≤ 7087412)
    (K : LK p l e s m args below meth c D A Q cI cZ cJ cG cW a b d q r r2 o (k + 10) (n + 60) [some (.ref bb), some (.ref (d 0)), some (.ref (q 0)), some (.ref o), some (.int (nI i)), none, none] 1332) : LK p l e s m args below meth c D A Q cI cZ cJ cG cW a b d q r r2 o k n [some (.ref bb), some (.ref (d 0)), some (.ref (q 0)), some (.ref o), some (.int (nI i)), none, none] 687 := by
  intro nc nw cx cy ch rm on wx wy dm sv fv hd lf la mg pt bd tk ho ri lo hp rl cn be bw wo mu qq ot us gv bs ld qs mS mD th hI
  refine g_aload_n C dL_law_687 rfl ?_
  refine g_aload_n C dL_law_688 rfl ?_
  refine g_iload C dL_law_689 rfl ?_
  refine g_iconst C 1 dL_law_691 (by decide +kernel) ?_
  refine g_iadd C (nI (i + 1)) dL_law_692 (nI_add i 1) ?_
  refine g_sld C hS (i + 1) rfl (by omega) dL_law_693 ?_
  refine g_aload_n C dL_law_694 rfl ?_
  refine gx_callH C hX (wM cI cZ q nc nw cx cy ch rm on wx wy dm sv fv hd lf la mg pt bd tk ho ri lo us gv bs ld qs mS mD th) (wO cJ o ot ++ ((wCo cI a b d mg pt bd tk ho ri lo fv hd lf la ++ wSo cI cW a b r2 hp rl cn be bw wo) ++ wL cI cZ cG a r nc nw cx cy ch rm on wx wy dm sv mu qq)) [.ref (d 0), .int (xs (i + 1)), .ref o] (t_L_tick hl0 hI.1 hI.2.1 hI.ihr hI.ihg (hI.iGQ on) hI.2.2.2.2) (vx_cwSW 3 C.ts gL_law_L_tick rfl rfl rfl (by decide +kernel) ⟨Nat.le_of_ble_eq_true rfl, Nat.le_of_ble_eq_true rfl⟩) rfl rfl rfl (Nat.le_of_ble_eq_true rfl) dL_law_695 (rm_ok hkn (by decide) (by decide)) (fun r1v w1 hp1 => ?_)
  refine g_widen (k' := k + 10) (n' := n + 60) (by omega) (by omega) ?_
  obtain ⟨rfl, H0, rfl⟩ | ⟨rfl, H1, rfl⟩ := hp1
  · skip
    obtain ⟨e1, e2, e3⟩ := fti_fmi (cx := cx) (cy := cy) (ch := ch) (on := on) (wx := wx) (wy := wy) (rm := rm) (dm := dm) (mg := mg) (pt := pt) (bd := bd) (tk := tk) (mu := mu) (us := us) (qq := qq) (z := (sv, fv, hd, lf, la, ho, ri, lo)) (nc := nc) (nw := nw) (Nat.lt_of_le_of_lt hI.1 (by decide)) hI.2.2.2.2 (xs (i + 1)).toNatClampNeg
    rw [e1, e2]
    refine g_istore C [some (.ref bb), some (.ref (d 0)), some (.ref (q 0)), some (.ref o), some (.int (nI i)), some (.int 0), none] dL_law_698 (by decide) rfl rfl ?_
    refine g_aload_n C dL_law_700 rfl ?_
    refine g_aload_n C dL_law_701 rfl ?_
    refine g_iload C dL_law_702 rfl ?_
    refine g_iconst C 1 dL_law_704 (by decide +kernel) ?_
    refine g_iadd C (nI (i + 1)) dL_law_705 (nI_add i 1) ?_
    refine g_sld C hS (i + 1) rfl (by omega) dL_law_706 ?_
    refine g_swap ?_
    refine g_callVi C (wO cJ o (vp_updL ot 0 (Int32.toInt64 ((fmi cx cy ch on wx wy rm dm nc nw mg pt bd (tk, us, sv, fv, hd, lf, la, ho, ri, lo) (xs (i + 1)).toNatClampNeg).2.2.2.2.2.2.2.1 - ho))) ++ ((wCo cI a b d mg pt bd ((fmi cx cy ch on wx wy rm dm nc nw mg pt bd (tk, us, sv, fv, hd, lf, la, ho, ri, lo) (xs (i + 1)).toNatClampNeg).1) ((fmi cx cy ch on wx wy rm dm nc nw mg pt bd (tk, us, sv, fv, hd, lf, la, ho, ri, lo) (xs (i + 1)).toNatClampNeg).2.2.2.2.2.2.2.1) ((fmi cx cy ch on wx wy rm dm nc nw mg pt bd (tk, us, sv, fv, hd, lf, la, ho, ri, lo) (xs (i + 1)).toNatClampNeg).2.2.2.2.2.2.2.2.1) ((fmi cx cy ch on wx wy rm dm nc nw mg pt bd (tk, us, sv, fv, hd, lf, la, ho, ri, lo) (xs (i + 1)).toNatClampNeg).2.2.2.2.2.2.2.2.2) ((fmi cx cy ch on wx wy rm dm nc nw mg pt bd (tk, us, sv, fv, hd, lf, la, ho, ri, lo) (xs (i + 1)).toNatClampNeg).2.2.2.1) ((fmi cx cy ch on wx wy rm dm nc nw mg pt bd (tk, us, sv, fv, hd, lf, la, ho, ri, lo) (xs (i + 1)).toNatClampNeg).2.2.2.2.1) ((fmi cx cy ch on wx wy rm dm nc nw mg pt bd (tk, us, sv, fv, hd, lf, la, ho, ri, lo) (xs (i + 1)).toNatClampNeg).2.2.2.2.2.1) ((fmi cx cy ch on wx wy rm dm nc nw mg pt bd (tk, us, sv, fv, hd, lf, la, ho, ri, lo) (xs (i + 1)).toNatClampNeg).2.2.2.2.2.2.1) ++ wSo cI cW a b r2 hp rl cn be bw wo) ++ wL cI cZ cG a r nc nw cx cy ch rm on wx wy dm ((fmi cx cy ch on wx wy rm dm nc nw mg pt bd (tk, us, sv, fv, hd, lf, la, ho, ri, lo) (xs (i + 1)).toNatClampNeg).2.2.1) ((fti cx cy ch on wx wy rm dm nc nw mg pt bd (tk, mu, qq, sv, fv, hd, lf, la, ho, ri, lo) (xs (i + 1)).toNatClampNeg).2.1) ((fti cx cy ch on wx wy rm dm nc nw mg pt bd (tk, mu, qq, sv, fv, hd, lf, la, ho, ri, lo) (xs (i + 1)).toNatClampNeg).2.2.1))) (wM cI cZ q nc nw cx cy ch rm on wx wy dm sv fv hd lf la mg pt bd tk ho ri lo us gv bs ld qs mS mD th) [.int (xs (i + 1))] (t_X3_tick hI.1 hI.2.1 hI.ihr hI.ihg (hI.iGQ on) hI.2.2.2.2) rfl rfl (cwV 1 C.ts gL_law_X3_tick rfl rfl rfl (by decide +kernel) ⟨Nat.le_of_ble_eq_true rfl, Nat.le_of_ble_eq_true rfl⟩) rfl rfl rfl (Nat.le_of_ble_eq_true rfl) dL_law_707 (rm_0 hkn) (fun r2v w2 hp2 => ?_)
    obtain ⟨M0, hr2, rfl⟩ | ⟨M1, rfl⟩ := hp2
    · skip
      refine g_istore C [some (.ref bb), some (.ref (d 0)), some (.ref (q 0)), some (.ref o), some (.int (nI i)), some (.int 0), some (.int r2v)] dL_law_710 (by decide) rfl rfl ?_
      refine g_aload_n C dL_law_712 rfl ?_
      refine g_callVi C (wO cJ o (vp_updL ot 0 (Int32.toInt64 ((fmi cx cy ch on wx wy rm dm nc nw mg pt bd (tk, us, sv, fv, hd, lf, la, ho, ri, lo) (xs (i + 1)).toNatClampNeg).2.2.2.2.2.2.2.1 - ho))) ++ ((wCo cI a b d mg pt bd ((fmi cx cy ch on wx wy rm dm nc nw mg pt bd (tk, us, sv, fv, hd, lf, la, ho, ri, lo) (xs (i + 1)).toNatClampNeg).1) ((fmi cx cy ch on wx wy rm dm nc nw mg pt bd (tk, us, sv, fv, hd, lf, la, ho, ri, lo) (xs (i + 1)).toNatClampNeg).2.2.2.2.2.2.2.1) ((fmi cx cy ch on wx wy rm dm nc nw mg pt bd (tk, us, sv, fv, hd, lf, la, ho, ri, lo) (xs (i + 1)).toNatClampNeg).2.2.2.2.2.2.2.2.1) ((fmi cx cy ch on wx wy rm dm nc nw mg pt bd (tk, us, sv, fv, hd, lf, la, ho, ri, lo) (xs (i + 1)).toNatClampNeg).2.2.2.2.2.2.2.2.2) ((fmi cx cy ch on wx wy rm dm nc nw mg pt bd (tk, us, sv, fv, hd, lf, la, ho, ri, lo) (xs (i + 1)).toNatClampNeg).2.2.2.1) ((fmi cx cy ch on wx wy rm dm nc nw mg pt bd (tk, us, sv, fv, hd, lf, la, ho, ri, lo) (xs (i + 1)).toNatClampNeg).2.2.2.2.1) ((fmi cx cy ch on wx wy rm dm nc nw mg pt bd (tk, us, sv, fv, hd, lf, la, ho, ri, lo) (xs (i + 1)).toNatClampNeg).2.2.2.2.2.1) ((fmi cx cy ch on wx wy rm dm nc nw mg pt bd (tk, us, sv, fv, hd, lf, la, ho, ri, lo) (xs (i + 1)).toNatClampNeg).2.2.2.2.2.2.1) ++ wSo cI cW a b r2 hp rl cn be bw wo) ++ wL cI cZ cG a r nc nw cx cy ch rm on wx wy dm ((fmi cx cy ch on wx wy rm dm nc nw mg pt bd (tk, us, sv, fv, hd, lf, la, ho, ri, lo) (xs (i + 1)).toNatClampNeg).2.2.1) ((fti cx cy ch on wx wy rm dm nc nw mg pt bd (tk, mu, qq, sv, fv, hd, lf, la, ho, ri, lo) (xs (i + 1)).toNatClampNeg).2.1) ((fti cx cy ch on wx wy rm dm nc nw mg pt bd (tk, mu, qq, sv, fv, hd, lf, la, ho, ri, lo) (xs (i + 1)).toNatClampNeg).2.2.1))) (wM cI cZ q nc nw cx cy ch rm on wx wy dm ((fmi cx cy ch on wx wy rm dm nc nw mg pt bd (tk, us, sv, fv, hd, lf, la, ho, ri, lo) (xs (i + 1)).toNatClampNeg).2.2.1) ((fmi cx cy ch on wx wy rm dm nc nw mg pt bd (tk, us, sv, fv, hd, lf, la, ho, ri, lo) (xs (i + 1)).toNatClampNeg).2.2.2.1) ((fmi cx cy ch on wx wy rm dm nc nw mg pt bd (tk, us, sv, fv, hd, lf, la, ho, ri, lo) (xs (i + 1)).toNatClampNeg).2.2.2.2.1) ((fmi cx cy ch on wx wy rm dm nc nw mg pt bd (tk, us, sv, fv, hd, lf, la, ho, ri, lo) (xs (i + 1)).toNatClampNeg).2.2.2.2.2.1) ((fmi cx cy ch on wx wy rm dm nc nw mg pt bd (tk, us, sv, fv, hd, lf, la, ho, ri, lo) (xs (i + 1)).toNatClampNeg).2.2.2.2.2.2.1) mg pt bd ((fmi cx cy ch on wx wy rm dm nc nw mg pt bd (tk, us, sv, fv, hd, lf, la, ho, ri, lo) (xs (i + 1)).toNatClampNeg).1) ((fmi cx cy ch on wx wy rm dm nc nw mg pt bd (tk, us, sv, fv, hd, lf, la, ho, ri, lo) (xs (i + 1)).toNatClampNeg).2.2.2.2.2.2.2.1) ((fmi cx cy ch on wx wy rm dm nc nw mg pt bd (tk, us, sv, fv, hd, lf, la, ho, ri, lo) (xs (i + 1)).toNatClampNeg).2.2.2.2.2.2.2.2.1) ((fmi cx cy ch on wx wy rm dm nc nw mg pt bd (tk, us, sv, fv, hd, lf, la, ho, ri, lo) (xs (i + 1)).toNatClampNeg).2.2.2.2.2.2.2.2.2) ((fmi cx cy ch on wx wy rm dm nc nw mg pt bd (tk, us, sv, fv, hd, lf, la, ho, ri, lo) (xs (i + 1)).toNatClampNeg).2.1) gv bs ld qs mS mD 0) [] t_X3_thrown rfl rfl (cwV 0 C.ts gL_law_X3_thrown rfl rfl rfl (by decide +kernel) ⟨Nat.le_of_ble_eq_true rfl, Nat.le_of_ble_eq_true rfl⟩) rfl rfl rfl (Nat.le_of_ble_eq_true rfl) dL_law_713 (rm_0 hkn) (fun r3v w3 hp3 => ?_)
      obtain ⟨rfl, rfl⟩ := hp3
      refine g_iload C dL_law_716 rfl ?_
      refine g_icmp_eq C 723 dL_law_718 (by decide) (fun _ => ?_) (fun c9 => absurd rfl c9)
      refine g_iload C dL_law_723 rfl ?_
      refine g_if_ne C 740 dL_law_725 (by decide) (fun c9 => absurd rfl c9) (fun _ => ?_)
      refine g_aload_n C dL_law_728 rfl ?_
      refine g_iconst C 0 dL_law_729 (by decide +kernel) ?_
      refine g_lald C 0 2 rfl rfl 0 rfl (by decide) (by decide) (Int32.toInt64 ((fmi cx cy ch on wx wy rm dm nc nw mg pt bd (tk, us, sv, fv, hd, lf, la, ho, ri, lo) (xs (i + 1)).toNatClampNeg).2.2.2.2.2.2.2.1 - ho)) rfl dL_law_730 ?_
      refine g_iload C dL_law_731 rfl ?_
      refine g_i2l C (Int32.toInt64 r2v) dL_law_733 rfl ?_
      refine g_lcmp C dL_law_734 ?_
      refine g_if_eq C 740 dL_law_735 (by decide) (fun _ => ?_) (fun c9 => absurd (lc_eq hr2.symm) c9)
      refine g_goto C 1332 dL_law_740 (by decide) ?_
      refine g_swap ?_
      refine g_mask [true, true, true, true, true, false, false] rfl ?_
      exact K _ _ _ _ _ _ _ _ _ _ _ _ _ _ _ _ _ _ _ _ _ _ _ _ _ _ _ _ _ _ _ _ _ _ _ _ _ _ _ (INV_sv hI e3)
    · exact absurd (H0) (M1)
  · skip
    refine g_istore C [some (.ref bb), some (.ref (d 0)), some (.ref (q 0)), some (.ref o), some (.int (nI i)), some (.int 1), none] dL_law_698 (by decide) rfl rfl ?_
    refine g_aload_n C dL_law_700 rfl ?_
    refine g_aload_n C dL_law_701 rfl ?_
    refine g_iload C dL_law_702 rfl ?_
    refine g_iconst C 1 dL_law_704 (by decide +kernel) ?_
    refine g_iadd C (nI (i + 1)) dL_law_705 (nI_add i 1) ?_
    refine g_sld C hS (i + 1) rfl (by omega) dL_law_706 ?_
    refine g_swap ?_
    refine g_callVi C (wO cJ o ot ++ ((wCo cI a b d mg pt bd tk ho ri lo fv hd lf la ++ wSo cI cW a b r2 hp rl cn be bw wo) ++ wL cI cZ cG a r nc nw cx cy ch rm on wx wy dm sv mu qq)) (wM cI cZ q nc nw cx cy ch rm on wx wy dm sv fv hd lf la mg pt bd tk ho ri lo us gv bs ld qs mS mD th) [.int (xs (i + 1))] (t_X3_tick hI.1 hI.2.1 hI.ihr hI.ihg (hI.iGQ on) hI.2.2.2.2) rfl rfl (cwV 1 C.ts gL_law_X3_tick rfl rfl rfl (by decide +kernel) ⟨Nat.le_of_ble_eq_true rfl, Nat.le_of_ble_eq_true rfl⟩) rfl rfl rfl (Nat.le_of_ble_eq_true rfl) dL_law_707 (rm_0 hkn) (fun r2v w2 hp2 => ?_)
    obtain ⟨M0, hr2, rfl⟩ | ⟨M1, rfl⟩ := hp2
    · exact absurd (M0) (H1)
    · skip
      refine g_istore C [some (.ref bb), some (.ref (d 0)), some (.ref (q 0)), some (.ref o), some (.int (nI i)), some (.int 1), some (.int r2v)] dL_law_710 (by decide) rfl rfl ?_
      refine g_aload_n C dL_law_712 rfl ?_
      refine g_callVi C (wO cJ o ot ++ ((wCo cI a b d mg pt bd tk ho ri lo fv hd lf la ++ wSo cI cW a b r2 hp rl cn be bw wo) ++ wL cI cZ cG a r nc nw cx cy ch rm on wx wy dm sv mu qq)) (wM cI cZ q nc nw cx cy ch rm on wx wy dm sv fv hd lf la mg pt bd tk ho ri lo us gv bs ld qs mS mD 1) [] t_X3_thrown rfl rfl (cwV 0 C.ts gL_law_X3_thrown rfl rfl rfl (by decide +kernel) ⟨Nat.le_of_ble_eq_true rfl, Nat.le_of_ble_eq_true rfl⟩) rfl rfl rfl (Nat.le_of_ble_eq_true rfl) dL_law_713 (rm_0 hkn) (fun r3v w3 hp3 => ?_)
      obtain ⟨rfl, rfl⟩ := hp3
      refine g_iload C dL_law_716 rfl ?_
      refine g_icmp_eq C 723 dL_law_718 (by decide) (fun _ => ?_) (fun c9 => absurd rfl c9)
      refine g_iload C dL_law_723 rfl ?_
      refine g_if_ne C 740 dL_law_725 (by decide) (fun _ => ?_) (fun c9 => absurd c9 (by decide))
      refine g_goto C 1332 dL_law_740 (by decide) ?_
      refine g_swap ?_
      refine g_mask [true, true, true, true, true, false, false] rfl ?_
      exact K _ _ _ _ _ _ _ _ _ _ _ _ _ _ _ _ _ _ _ _ _ _ _ _ _ _ _ _ _ _ _ _ _ _ _ _ _ _ _ hI
set_option maxHeartbeats 1000000 in
set_option maxRecDepth 100000 in
theorem law_signal (C : CX p s m args meth c cL_law RL wsL_law D (T5 cI cZ cJ cG cW) A 7) (hl0 : l.stackTraces = false) (hX : XX A s s.heap) (hS : SCR A s bb L xs) (hi : i + 4 < L) (hkn : k + 10 ≤ 669564 ∧ n + 60 ≤ 7087412)
    (K : LK p l e s m args below meth c D A Q cI cZ cJ cG cW a b d q r r2 o (k + 10) (n + 60) [some (.ref bb), some (.ref (d 0)), some (.ref (q 0)), some (.ref o), some (.int (nI i)), none, none] 1332) : LK p l e s m args below meth c D A Q cI cZ cJ cG cW a b d q r r2 o k n [some (.ref bb), some (.ref (d 0)), some (.ref (q 0)), some (.ref o), some (.int (nI i)), none, none] 782 := by
  intro nc nw cx cy ch rm on wx wy dm sv fv hd lf la mg pt bd tk ho ri lo hp rl cn be bw wo mu qq ot us gv bs ld qs mS mD th hI
  refine g_aload_n C dL_law_782 rfl ?_
  refine g_aload_n C dL_law_783 rfl ?_
  refine g_iload C dL_law_784 rfl ?_
  refine g_iconst C 1 dL_law_786 (by decide +kernel) ?_
  refine g_iadd C (nI (i + 1)) dL_law_787 (nI_add i 1) ?_
  refine g_sld C hS (i + 1) rfl (by omega) dL_law_788 ?_
  refine g_aload_n C dL_law_789 rfl ?_
  refine g_iload C dL_law_790 rfl ?_
  refine g_iconst C 2 dL_law_792 (by decide +kernel) ?_
  refine g_iadd C (nI (i + 2)) dL_law_793 (nI_add i 2) ?_
  refine g_sld C hS (i + 2) rfl (by omega) dL_law_794 ?_
  refine g_aload_n C dL_law_795 rfl ?_
  refine gx_callH C hX (wM cI cZ q nc nw cx cy ch rm on wx wy dm sv fv hd lf la mg pt bd tk ho ri lo us gv bs ld qs mS mD th) (wO cJ o ot ++ ((wCo cI a b d mg pt bd tk ho ri lo fv hd lf la ++ wSo cI cW a b r2 hp rl cn be bw wo) ++ wL cI cZ cG a r nc nw cx cy ch rm on wx wy dm sv mu qq)) [.ref (d 0), .int (xs (i + 1)), .int (xs (i + 2)), .ref o] (t_L_signal hl0 hI.1 hI.2.1 hI.ihg) (vx_cwSW 4 C.ts gL_law_L_signal rfl rfl rfl (by decide +kernel) ⟨Nat.le_of_ble_eq_true rfl, Nat.le_of_ble_eq_true rfl⟩) rfl rfl rfl (Nat.le_of_ble_eq_true rfl) dL_law_796 (rm_ok hkn (by decide) (by decide)) (fun r1v w1 hp1 => ?_)
  refine g_widen (k' := k + 10) (n' := n + 60) (by omega) (by omega) ?_
  obtain ⟨rfl, H0, rfl⟩ | ⟨rfl, H1, rfl⟩ := hp1
  · skip
    refine g_istore C [some (.ref bb), some (.ref (d 0)), some (.ref (q 0)), some (.ref o), some (.int (nI i)), some (.int 0), none] dL_law_799 (by decide) rfl rfl ?_
    refine g_aload_n C dL_law_801 rfl ?_
    refine g_aload_n C dL_law_802 rfl ?_
    refine g_iload C dL_law_803 rfl ?_
    refine g_iconst C 1 dL_law_805 (by decide +kernel) ?_
    refine g_iadd C (nI (i + 1)) dL_law_806 (nI_add i 1) ?_
    refine g_sld C hS (i + 1) rfl (by omega) dL_law_807 ?_
    refine g_aload_n C dL_law_808 rfl ?_
    refine g_iload C dL_law_809 rfl ?_
    refine g_iconst C 2 dL_law_811 (by decide +kernel) ?_
    refine g_iadd C (nI (i + 2)) dL_law_812 (nI_add i 2) ?_
    refine g_sld C hS (i + 2) rfl (by omega) dL_law_813 ?_
    refine g_swap ?_
    refine g_callVi C (wO cJ o (vp_updL ot 0 (Int32.toInt64 (sg cx cy wx wy (xs (i + 1)).toNatClampNeg (xs (i + 2)).toNatClampNeg))) ++ ((wCo cI a b d mg pt bd tk ho ri lo fv hd lf la ++ wSo cI cW a b r2 hp rl cn be bw wo) ++ wL cI cZ cG a r nc nw cx cy ch rm on wx wy dm sv mu qq)) (wM cI cZ q nc nw cx cy ch rm on wx wy dm sv fv hd lf la mg pt bd tk ho ri lo us gv bs ld qs mS mD th) [.int (xs (i + 1)), .int (xs (i + 2))] (t_X3_signal hI.1 hI.2.1 hI.ihg) rfl rfl (cwV 2 C.ts gL_law_X3_signal rfl rfl rfl (by decide +kernel) ⟨Nat.le_of_ble_eq_true rfl, Nat.le_of_ble_eq_true rfl⟩) rfl rfl rfl (Nat.le_of_ble_eq_true rfl) dL_law_814 (rm_0 hkn) (fun r2v w2 hp2 => ?_)
    obtain ⟨M0, hr2, rfl⟩ | ⟨M1, rfl⟩ := hp2
    · skip
      refine g_istore C [some (.ref bb), some (.ref (d 0)), some (.ref (q 0)), some (.ref o), some (.int (nI i)), some (.int 0), some (.int r2v)] dL_law_817 (by decide) rfl rfl ?_
      refine g_aload_n C dL_law_819 rfl ?_
      refine g_callVi C (wO cJ o (vp_updL ot 0 (Int32.toInt64 (sg cx cy wx wy (xs (i + 1)).toNatClampNeg (xs (i + 2)).toNatClampNeg))) ++ ((wCo cI a b d mg pt bd tk ho ri lo fv hd lf la ++ wSo cI cW a b r2 hp rl cn be bw wo) ++ wL cI cZ cG a r nc nw cx cy ch rm on wx wy dm sv mu qq)) (wM cI cZ q nc nw cx cy ch rm on wx wy dm sv fv hd lf la mg pt bd tk ho ri lo us gv bs ld qs mS mD 0) [] t_X3_thrown rfl rfl (cwV 0 C.ts gL_law_X3_thrown rfl rfl rfl (by decide +kernel) ⟨Nat.le_of_ble_eq_true rfl, Nat.le_of_ble_eq_true rfl⟩) rfl rfl rfl (Nat.le_of_ble_eq_true rfl) dL_law_820 (rm_0 hkn) (fun r3v w3 hp3 => ?_)
      obtain ⟨rfl, rfl⟩ := hp3
      refine g_iload C dL_law_823 rfl ?_
      refine g_icmp_eq C 830 dL_law_825 (by decide) (fun _ => ?_) (fun c9 => absurd rfl c9)
      refine g_iload C dL_law_830 rfl ?_
      refine g_if_ne C 847 dL_law_832 (by decide) (fun c9 => absurd rfl c9) (fun _ => ?_)
      refine g_aload_n C dL_law_835 rfl ?_
      refine g_iconst C 0 dL_law_836 (by decide +kernel) ?_
      refine g_lald C 0 2 rfl rfl 0 rfl (by decide) (by decide) (Int32.toInt64 (sg cx cy wx wy (xs (i + 1)).toNatClampNeg (xs (i + 2)).toNatClampNeg)) rfl dL_law_837 ?_
      refine g_iload C dL_law_838 rfl ?_
      refine g_i2l C (Int32.toInt64 r2v) dL_law_840 rfl ?_
      refine g_lcmp C dL_law_841 ?_
      refine g_if_eq C 847 dL_law_842 (by decide) (fun _ => ?_) (fun c9 => absurd (lc_eq hr2.symm) c9)
      refine g_goto C 1332 dL_law_847 (by decide) ?_
      refine g_swap ?_
      refine g_mask [true, true, true, true, true, false, false] rfl ?_
      exact K _ _ _ _ _ _ _ _ _ _ _ _ _ _ _ _ _ _ _ _ _ _ _ _ _ _ _ _ _ _ _ _ _ _ _ _ _ _ _ hI
    · exact absurd (H0) (M1)
  · skip
    refine g_istore C [some (.ref bb), some (.ref (d 0)), some (.ref (q 0)), some (.ref o), some (.int (nI i)), some (.int 1), none] dL_law_799 (by decide) rfl rfl ?_
    refine g_aload_n C dL_law_801 rfl ?_
    refine g_aload_n C dL_law_802 rfl ?_
    refine g_iload C dL_law_803 rfl ?_
    refine g_iconst C 1 dL_law_805 (by decide +kernel) ?_
    refine g_iadd C (nI (i + 1)) dL_law_806 (nI_add i 1) ?_
    refine g_sld C hS (i + 1) rfl (by omega) dL_law_807 ?_
    refine g_aload_n C dL_law_808 rfl ?_
    refine g_iload C dL_law_809 rfl ?_
    refine g_iconst C 2 dL_law_811 (by decide +kernel) ?_
    refine g_iadd C (nI (i + 2)) dL_law_812 (nI_add i 2) ?_
    refine g_sld C hS (i + 2) rfl (by omega) dL_law_813 ?_
    refine g_swap ?_
    refine g_callVi C (wO cJ o ot ++ ((wCo cI a b d mg pt bd tk ho ri lo fv hd lf la ++ wSo cI cW a b r2 hp rl cn be bw wo) ++ wL cI cZ cG a r nc nw cx cy ch rm on wx wy dm sv mu qq)) (wM cI cZ q nc nw cx cy ch rm on wx wy dm sv fv hd lf la mg pt bd tk ho ri lo us gv bs ld qs mS mD th) [.int (xs (i + 1)), .int (xs (i + 2))] (t_X3_signal hI.1 hI.2.1 hI.ihg) rfl rfl (cwV 2 C.ts gL_law_X3_signal rfl rfl rfl (by decide +kernel) ⟨Nat.le_of_ble_eq_true rfl, Nat.le_of_ble_eq_true rfl⟩) rfl rfl rfl (Nat.le_of_ble_eq_true rfl) dL_law_814 (rm_0 hkn) (fun r2v w2 hp2 => ?_)
    obtain ⟨M0, hr2, rfl⟩ | ⟨M1, rfl⟩ := hp2
    · exact absurd (M0) (H1)
    · skip
      refine g_istore C [some (.ref bb), some (.ref (d 0)), some (.ref (q 0)), some (.ref o), some (.int (nI i)), some (.int 1), some (.int r2v)] dL_law_817 (by decide) rfl rfl ?_
      refine g_aload_n C dL_law_819 rfl ?_
      refine g_callVi C (wO cJ o ot ++ ((wCo cI a b d mg pt bd tk ho ri lo fv hd lf la ++ wSo cI cW a b r2 hp rl cn be bw wo) ++ wL cI cZ cG a r nc nw cx cy ch rm on wx wy dm sv mu qq)) (wM cI cZ q nc nw cx cy ch rm on wx wy dm sv fv hd lf la mg pt bd tk ho ri lo us gv bs ld qs mS mD 1) [] t_X3_thrown rfl rfl (cwV 0 C.ts gL_law_X3_thrown rfl rfl rfl (by decide +kernel) ⟨Nat.le_of_ble_eq_true rfl, Nat.le_of_ble_eq_true rfl⟩) rfl rfl rfl (Nat.le_of_ble_eq_true rfl) dL_law_820 (rm_0 hkn) (fun r3v w3 hp3 => ?_)
      obtain ⟨rfl, rfl⟩ := hp3
      refine g_iload C dL_law_823 rfl ?_
      refine g_icmp_eq C 830 dL_law_825 (by decide) (fun _ => ?_) (fun c9 => absurd rfl c9)
      refine g_iload C dL_law_830 rfl ?_
      refine g_if_ne C 847 dL_law_832 (by decide) (fun _ => ?_) (fun c9 => absurd c9 (by decide))
      refine g_goto C 1332 dL_law_847 (by decide) ?_
      refine g_swap ?_
      refine g_mask [true, true, true, true, true, false, false] rfl ?_
      exact K _ _ _ _ _ _ _ _ _ _ _ _ _ _ _ _ _ _ _ _ _ _ _ _ _ _ _ _ _ _ _ _ _ _ _ _ _ _ _ hI
set_option maxHeartbeats 1000000 in
set_option maxRecDepth 100000 in
theorem law_quality (C : CX p s m args meth c cL_law RL wsL_law D (T5 cI cZ cJ cG cW) A 7) (hl0 : l.stackTraces = false) (hX : XX A s s.heap) (hS : SCR A s bb L xs) (hi : i + 4 < L) (hkn : k + 10 ≤ 669564 ∧ n + 60 ≤ 7087412)
    (K : LK p l e s m args below meth c D A Q cI cZ cJ cG cW a b d q r r2 o (k + 10) (n + 60) [some (.ref bb), some (.ref (d 0)), some (.ref (q 0)), some (.ref o), some (.int (nI i)), none, none] 1332) : LK p l e s m args below meth c D A Q cI cZ cJ cG cW a b d q r r2 o k n [some (.ref bb), some (.ref (d 0)), some (.ref (q 0)), some (.ref o), some (.int (nI i)), none, none] 850 := by
  intro nc nw cx cy ch rm on wx wy dm sv fv hd lf la mg pt bd tk ho ri lo hp rl cn be bw wo mu qq ot us gv bs ld qs mS mD th hI
  refine g_aload_n C dL_law_850 rfl ?_
  refine g_aload_n C dL_law_851 rfl ?_
  refine g_iload C dL_law_852 rfl ?_
  refine g_iconst C 1 dL_law_854 (by decide +kernel) ?_
  refine g_iadd C (nI (i + 1)) dL_law_855 (nI_add i 1) ?_
  refine g_sld C hS (i + 1) rfl (by omega) dL_law_856 ?_
  refine g_aload_n C dL_law_857 rfl ?_
  refine g_iload C dL_law_858 rfl ?_
  refine g_iconst C 2 dL_law_860 (by decide +kernel) ?_
  refine g_iadd C (nI (i + 2)) dL_law_861 (nI_add i 2) ?_
  refine g_sld C hS (i + 2) rfl (by omega) dL_law_862 ?_
  refine g_aload_n C dL_law_863 rfl ?_
  refine gx_callH C hX (wM cI cZ q nc nw cx cy ch rm on wx wy dm sv fv hd lf la mg pt bd tk ho ri lo us gv bs ld qs mS mD th) (wO cJ o ot ++ ((wCo cI a b d mg pt bd tk ho ri lo fv hd lf la ++ wSo cI cW a b r2 hp rl cn be bw wo) ++ wL cI cZ cG a r nc nw cx cy ch rm on wx wy dm sv mu qq)) [.ref (d 0), .int (xs (i + 1)), .int (xs (i + 2)), .ref o] (t_L_quality hl0 hI.1 hI.2.1 hI.ihr hI.ihg (hI.iGQ on sv mu)) (vx_cwSW 4 C.ts gL_law_L_quality rfl rfl rfl (by decide +kernel) ⟨Nat.le_of_ble_eq_true rfl, Nat.le_of_ble_eq_true rfl⟩) rfl rfl rfl (Nat.le_of_ble_eq_true rfl) dL_law_864 (rm_ok hkn (by decide) (by decide)) (fun r1v w1 hp1 => ?_)
  refine g_widen (k' := k + 10) (n' := n + 60) (by omega) (by omega) ?_
  obtain ⟨rfl, H0, rfl⟩ | ⟨rfl, H1, rfl⟩ := hp1
  · skip
    refine g_istore C [some (.ref bb), some (.ref (d 0)), some (.ref (q 0)), some (.ref o), some (.int (nI i)), some (.int 0), none] dL_law_867 (by decide) rfl rfl ?_
    refine g_aload_n C dL_law_869 rfl ?_
    refine g_aload_n C dL_law_870 rfl ?_
    refine g_iload C dL_law_871 rfl ?_
    refine g_iconst C 1 dL_law_873 (by decide +kernel) ?_
    refine g_iadd C (nI (i + 1)) dL_law_874 (nI_add i 1) ?_
    refine g_sld C hS (i + 1) rfl (by omega) dL_law_875 ?_
    refine g_aload_n C dL_law_876 rfl ?_
    refine g_iload C dL_law_877 rfl ?_
    refine g_iconst C 2 dL_law_879 (by decide +kernel) ?_
    refine g_iadd C (nI (i + 2)) dL_law_880 (nI_add i 2) ?_
    refine g_sld C hS (i + 2) rfl (by omega) dL_law_881 ?_
    refine g_swap ?_
    refine g_callVi C (wO cJ o (vp_updL ot 0 (Int32.toInt64 (fqu cx cy ch on wx wy (fil nc (fus rm sv dm nw) mu) nc (xs (i + 2)).toNatClampNeg (xs (i + 1)).toNatClampNeg))) ++ ((wCo cI a b d mg pt bd tk ho ri lo fv hd lf la ++ wSo cI cW a b r2 hp rl cn be bw wo) ++ wL cI cZ cG a r nc nw cx cy ch rm on wx wy dm sv (fil nc (fus rm sv dm nw) mu) (fil2 nw nc (fun w c => fqu cx cy ch on wx wy (fil nc (fus rm sv dm nw) mu) nc w c) qq))) (wM cI cZ q nc nw cx cy ch rm on wx wy dm sv fv hd lf la mg pt bd tk ho ri lo us gv bs ld qs mS mD th) [.int (xs (i + 1)), .int (xs (i + 2))] (t_X3_quality hI.1 hI.2.1 hI.ihr hI.ihg (hI.iGQ on)) rfl rfl (cwV 2 C.ts gL_law_X3_quality rfl rfl rfl (by decide +kernel) ⟨Nat.le_of_ble_eq_true rfl, Nat.le_of_ble_eq_true rfl⟩) rfl rfl rfl (Nat.le_of_ble_eq_true rfl) dL_law_882 (rm_0 hkn) (fun r2v w2 hp2 => ?_)
    obtain ⟨M0, hr2, rfl⟩ | ⟨M1, rfl⟩ := hp2
    · skip
      refine g_istore C [some (.ref bb), some (.ref (d 0)), some (.ref (q 0)), some (.ref o), some (.int (nI i)), some (.int 0), some (.int r2v)] dL_law_885 (by decide) rfl rfl ?_
      refine g_aload_n C dL_law_887 rfl ?_
      refine g_callVi C (wO cJ o (vp_updL ot 0 (Int32.toInt64 (fqu cx cy ch on wx wy (fil nc (fus rm sv dm nw) mu) nc (xs (i + 2)).toNatClampNeg (xs (i + 1)).toNatClampNeg))) ++ ((wCo cI a b d mg pt bd tk ho ri lo fv hd lf la ++ wSo cI cW a b r2 hp rl cn be bw wo) ++ wL cI cZ cG a r nc nw cx cy ch rm on wx wy dm sv (fil nc (fus rm sv dm nw) mu) (fil2 nw nc (fun w c => fqu cx cy ch on wx wy (fil nc (fus rm sv dm nw) mu) nc w c) qq))) (wM cI cZ q nc nw cx cy ch rm on wx wy dm sv fv hd lf la mg pt bd tk ho ri lo (fil nc (fus rm sv dm nw) us) gv bs ld qs mS mD 0) [] t_X3_thrown rfl rfl (cwV 0 C.ts gL_law_X3_thrown rfl rfl rfl (by decide +kernel) ⟨Nat.le_of_ble_eq_true rfl, Nat.le_of_ble_eq_true rfl⟩) rfl rfl rfl (Nat.le_of_ble_eq_true rfl) dL_law_888 (rm_0 hkn) (fun r3v w3 hp3 => ?_)
      obtain ⟨rfl, rfl⟩ := hp3
      refine g_iload C dL_law_891 rfl ?_
      refine g_icmp_eq C 898 dL_law_893 (by decide) (fun _ => ?_) (fun c9 => absurd rfl c9)
      refine g_iload C dL_law_898 rfl ?_
      refine g_if_ne C 915 dL_law_900 (by decide) (fun c9 => absurd rfl c9) (fun _ => ?_)
      refine g_aload_n C dL_law_903 rfl ?_
      refine g_iconst C 0 dL_law_904 (by decide +kernel) ?_
      refine g_lald C 0 2 rfl rfl 0 rfl (by decide) (by decide) (Int32.toInt64 (fqu cx cy ch on wx wy (fil nc (fus rm sv dm nw) mu) nc (xs (i + 2)).toNatClampNeg (xs (i + 1)).toNatClampNeg)) rfl dL_law_905 ?_
      refine g_iload C dL_law_906 rfl ?_
      refine g_i2l C (Int32.toInt64 r2v) dL_law_908 rfl ?_
      refine g_lcmp C dL_law_909 ?_
      refine g_if_eq C 915 dL_law_910 (by decide) (fun _ => ?_) (fun c9 => absurd (lc_eq ((fqu_fil (M' := us)).trans hr2.symm)) c9)
      refine g_goto C 1332 dL_law_915 (by decide) ?_
      refine g_swap ?_
      refine g_mask [true, true, true, true, true, false, false] rfl ?_
      exact K _ _ _ _ _ _ _ _ _ _ _ _ _ _ _ _ _ _ _ _ _ _ _ _ _ _ _ _ _ _ _ _ _ _ _ _ _ _ _ hI
    · exact absurd (H0) (M1)
  · skip
    refine g_istore C [some (.ref bb), some (.ref (d 0)), some (.ref (q 0)), some (.ref o), some (.int (nI i)), some (.int 1), none] dL_law_867 (by decide) rfl rfl ?_
    refine g_aload_n C dL_law_869 rfl ?_
    refine g_aload_n C dL_law_870 rfl ?_
    refine g_iload C dL_law_871 rfl ?_
    refine g_iconst C 1 dL_law_873 (by decide +kernel) ?_
    refine g_iadd C (nI (i + 1)) dL_law_874 (nI_add i 1) ?_
    refine g_sld C hS (i + 1) rfl (by omega) dL_law_875 ?_
    refine g_aload_n C dL_law_876 rfl ?_
    refine g_iload C dL_law_877 rfl ?_
    refine g_iconst C 2 dL_law_879 (by decide +kernel) ?_
    refine g_iadd C (nI (i + 2)) dL_law_880 (nI_add i 2) ?_
    refine g_sld C hS (i + 2) rfl (by omega) dL_law_881 ?_
    refine g_swap ?_
    refine g_callVi C (wO cJ o ot ++ ((wCo cI a b d mg pt bd tk ho ri lo fv hd lf la ++ wSo cI cW a b r2 hp rl cn be bw wo) ++ wL cI cZ cG a r nc nw cx cy ch rm on wx wy dm sv mu qq)) (wM cI cZ q nc nw cx cy ch rm on wx wy dm sv fv hd lf la mg pt bd tk ho ri lo us gv bs ld qs mS mD th) [.int (xs (i + 1)), .int (xs (i + 2))] (t_X3_quality hI.1 hI.2.1 hI.ihr hI.ihg (hI.iGQ on)) rfl rfl (cwV 2 C.ts gL_law_X3_quality rfl rfl rfl (by decide +kernel) ⟨Nat.le_of_ble_eq_true rfl, Nat.le_of_ble_eq_true rfl⟩) rfl rfl rfl (Nat.le_of_ble_eq_true rfl) dL_law_882 (rm_0 hkn) (fun r2v w2 hp2 => ?_)
    obtain ⟨M0, hr2, rfl⟩ | ⟨M1, rfl⟩ := hp2
    · exact absurd (M0) (H1)
    · skip
      refine g_istore C [some (.ref bb), some (.ref (d 0)), some (.ref (q 0)), some (.ref o), some (.int (nI i)), some (.int 1), some (.int r2v)] dL_law_885 (by decide) rfl rfl ?_
      refine g_aload_n C dL_law_887 rfl ?_
      refine g_callVi C (wO cJ o ot ++ ((wCo cI a b d mg pt bd tk ho ri lo fv hd lf la ++ wSo cI cW a b r2 hp rl cn be bw wo) ++ wL cI cZ cG a r nc nw cx cy ch rm on wx wy dm sv mu qq)) (wM cI cZ q nc nw cx cy ch rm on wx wy dm sv fv hd lf la mg pt bd tk ho ri lo us gv bs ld qs mS mD 1) [] t_X3_thrown rfl rfl (cwV 0 C.ts gL_law_X3_thrown rfl rfl rfl (by decide +kernel) ⟨Nat.le_of_ble_eq_true rfl, Nat.le_of_ble_eq_true rfl⟩) rfl rfl rfl (Nat.le_of_ble_eq_true rfl) dL_law_888 (rm_0 hkn) (fun r3v w3 hp3 => ?_)
      obtain ⟨rfl, rfl⟩ := hp3
      refine g_iload C dL_law_891 rfl ?_
      refine g_icmp_eq C 898 dL_law_893 (by decide) (fun _ => ?_) (fun c9 => absurd rfl c9)
      refine g_iload C dL_law_898 rfl ?_
      refine g_if_ne C 915 dL_law_900 (by decide) (fun _ => ?_) (fun c9 => absurd c9 (by decide))
      refine g_goto C 1332 dL_law_915 (by decide) ?_
      refine g_swap ?_
      refine g_mask [true, true, true, true, true, false, false] rfl ?_
      exact K _ _ _ _ _ _ _ _ _ _ _ _ _ _ _ _ _ _ _ _ _ _ _ _ _ _ _ _ _ _ _ _ _ _ _ _ _ _ _ hI
set_option maxHeartbeats 1000000 in
set_option maxRecDepth 100000 in
theorem law_load (C : CX p s m args meth c cL_law RL wsL_law D (T5 cI cZ cJ cG cW) A 7) (hl0 : l.stackTraces = false) (hX : XX A s s.heap) (hS : SCR A s bb L xs) (hi : i + 4 < L) (hkn : k + 10 ≤ 669564 ∧ n + 60 ≤ 7087412)
    (K : LK p l e s m args below meth c D A Q cI cZ cJ cG cW a b d q r r2 o (k + 10) (n + 60) [some (.ref bb), some (.ref (d 0)), some (.ref (q 0)), some (.ref o), some (.int (nI i)), none, none] 1332) : LK p l e s m args below meth c D A Q cI cZ cJ cG cW a b d q r r2 o k n [some (.ref bb), some (.ref (d 0)), some (.ref (q 0)), some (.ref o), some (.int (nI i)), none, none] 918 := by
  intro nc nw cx cy ch rm on wx wy dm sv fv hd lf la mg pt bd tk ho ri lo hp rl cn be bw wo mu qq ot us gv bs ld qs mS mD th hI
  refine g_aload_n C dL_law_918 rfl ?_
  refine g_aload_n C dL_law_919 rfl ?_
  refine g_iload C dL_law_920 rfl ?_
  refine g_iconst C 1 dL_law_922 (by decide +kernel) ?_
  refine g_iadd C (nI (i + 1)) dL_law_923 (nI_add i 1) ?_
  refine g_sld C hS (i + 1) rfl (by omega) dL_law_924 ?_
  refine g_aload_n C dL_law_925 rfl ?_
  refine gx_callH C hX (wM cI cZ q nc nw cx cy ch rm on wx wy dm sv fv hd lf la mg pt bd tk ho ri lo us gv bs ld qs mS mD th) (wO cJ o ot ++ ((wCo cI a b d mg pt bd tk ho ri lo fv hd lf la ++ wSo cI cW a b r2 hp rl cn be bw wo) ++ wL cI cZ cG a r nc nw cx cy ch rm on wx wy dm sv mu qq)) [.ref (d 0), .int (xs (i + 1)), .ref o] (t_L_load hl0 hI.1 hI.2.1) (vx_cwSW 3 C.ts gL_law_L_load rfl rfl rfl (by decide +kernel) ⟨Nat.le_of_ble_eq_true rfl, Nat.le_of_ble_eq_true rfl⟩) rfl rfl rfl (Nat.le_of_ble_eq_true rfl) dL_law_926 (rm_ok hkn (by decide) (by decide)) (fun r1v w1 hp1 => ?_)
  refine g_widen (k' := k + 10) (n' := n + 60) (by omega) (by omega) ?_
  obtain ⟨rfl, H0, rfl⟩ | ⟨rfl, H1, rfl⟩ := hp1
  · skip
    refine g_istore C [some (.ref bb), some (.ref (d 0)), some (.ref (q 0)), some (.ref o), some (.int (nI i)), some (.int 0), none] dL_law_929 (by decide) rfl rfl ?_
    refine g_aload_n C dL_law_931 rfl ?_
    refine g_aload_n C dL_law_932 rfl ?_
    refine g_iload C dL_law_933 rfl ?_
    refine g_iconst C 1 dL_law_935 (by decide +kernel) ?_
    refine g_iadd C (nI (i + 1)) dL_law_936 (nI_add i 1) ?_
    refine g_sld C hS (i + 1) rfl (by omega) dL_law_937 ?_
    refine g_swap ?_
    refine g_callVi C (wO cJ o (vp_updL ot 0 (Int32.toInt64 (fld sv dm (xs (i + 1)) nw))) ++ ((wCo cI a b d mg pt bd tk ho ri lo fv hd lf la ++ wSo cI cW a b r2 hp rl cn be bw wo) ++ wL cI cZ cG a r nc nw cx cy ch rm on wx wy dm sv mu qq)) (wM cI cZ q nc nw cx cy ch rm on wx wy dm sv fv hd lf la mg pt bd tk ho ri lo us gv bs ld qs mS mD th) [.int (xs (i + 1))] (t_X3_load hI.1 hI.2.1) rfl rfl (cwV 1 C.ts gL_law_X3_load rfl rfl rfl (by decide +kernel) ⟨Nat.le_of_ble_eq_true rfl, Nat.le_of_ble_eq_true rfl⟩) rfl rfl rfl (Nat.le_of_ble_eq_true rfl) dL_law_938 (rm_0 hkn) (fun r2v w2 hp2 => ?_)
    obtain ⟨M0, hr2, rfl⟩ | ⟨M1, rfl⟩ := hp2
    · skip
      refine g_istore C [some (.ref bb), some (.ref (d 0)), some (.ref (q 0)), some (.ref o), some (.int (nI i)), some (.int 0), some (.int r2v)] dL_law_941 (by decide) rfl rfl ?_
      refine g_aload_n C dL_law_943 rfl ?_
      refine g_callVi C (wO cJ o (vp_updL ot 0 (Int32.toInt64 (fld sv dm (xs (i + 1)) nw))) ++ ((wCo cI a b d mg pt bd tk ho ri lo fv hd lf la ++ wSo cI cW a b r2 hp rl cn be bw wo) ++ wL cI cZ cG a r nc nw cx cy ch rm on wx wy dm sv mu qq)) (wM cI cZ q nc nw cx cy ch rm on wx wy dm sv fv hd lf la mg pt bd tk ho ri lo us gv bs ld qs mS mD 0) [] t_X3_thrown rfl rfl (cwV 0 C.ts gL_law_X3_thrown rfl rfl rfl (by decide +kernel) ⟨Nat.le_of_ble_eq_true rfl, Nat.le_of_ble_eq_true rfl⟩) rfl rfl rfl (Nat.le_of_ble_eq_true rfl) dL_law_944 (rm_0 hkn) (fun r3v w3 hp3 => ?_)
      obtain ⟨rfl, rfl⟩ := hp3
      refine g_iload C dL_law_947 rfl ?_
      refine g_icmp_eq C 954 dL_law_949 (by decide) (fun _ => ?_) (fun c9 => absurd rfl c9)
      refine g_iload C dL_law_954 rfl ?_
      refine g_if_ne C 971 dL_law_956 (by decide) (fun c9 => absurd rfl c9) (fun _ => ?_)
      refine g_aload_n C dL_law_959 rfl ?_
      refine g_iconst C 0 dL_law_960 (by decide +kernel) ?_
      refine g_lald C 0 2 rfl rfl 0 rfl (by decide) (by decide) (Int32.toInt64 (fld sv dm (xs (i + 1)) nw)) rfl dL_law_961 ?_
      refine g_iload C dL_law_962 rfl ?_
      refine g_i2l C (Int32.toInt64 r2v) dL_law_964 rfl ?_
      refine g_lcmp C dL_law_965 ?_
      refine g_if_eq C 971 dL_law_966 (by decide) (fun _ => ?_) (fun c9 => absurd (lc_eq hr2.symm) c9)
      refine g_goto C 1332 dL_law_971 (by decide) ?_
      refine g_swap ?_
      refine g_mask [true, true, true, true, true, false, false] rfl ?_
      exact K _ _ _ _ _ _ _ _ _ _ _ _ _ _ _ _ _ _ _ _ _ _ _ _ _ _ _ _ _ _ _ _ _ _ _ _ _ _ _ hI
    · exact absurd (H0) (M1)
  · skip
    refine g_istore C [some (.ref bb), some (.ref (d 0)), some (.ref (q 0)), some (.ref o), some (.int (nI i)), some (.int 1), none] dL_law_929 (by decide) rfl rfl ?_
    refine g_aload_n C dL_law_931 rfl ?_
    refine g_aload_n C dL_law_932 rfl ?_
    refine g_iload C dL_law_933 rfl ?_
    refine g_iconst C 1 dL_law_935 (by decide +kernel) ?_
    refine g_iadd C (nI (i + 1)) dL_law_936 (nI_add i 1) ?_
    refine g_sld C hS (i + 1) rfl (by omega) dL_law_937 ?_
    refine g_swap ?_
    refine g_callVi C (wO cJ o ot ++ ((wCo cI a b d mg pt bd tk ho ri lo fv hd lf la ++ wSo cI cW a b r2 hp rl cn be bw wo) ++ wL cI cZ cG a r nc nw cx cy ch rm on wx wy dm sv mu qq)) (wM cI cZ q nc nw cx cy ch rm on wx wy dm sv fv hd lf la mg pt bd tk ho ri lo us gv bs ld qs mS mD th) [.int (xs (i + 1))] (t_X3_load hI.1 hI.2.1) rfl rfl (cwV 1 C.ts gL_law_X3_load rfl rfl rfl (by decide +kernel) ⟨Nat.le_of_ble_eq_true rfl, Nat.le_of_ble_eq_true rfl⟩) rfl rfl rfl (Nat.le_of_ble_eq_true rfl) dL_law_938 (rm_0 hkn) (fun r2v w2 hp2 => ?_)
    obtain ⟨M0, hr2, rfl⟩ | ⟨M1, rfl⟩ := hp2
    · exact absurd (M0) (H1)
    · skip
      refine g_istore C [some (.ref bb), some (.ref (d 0)), some (.ref (q 0)), some (.ref o), some (.int (nI i)), some (.int 1), some (.int r2v)] dL_law_941 (by decide) rfl rfl ?_
      refine g_aload_n C dL_law_943 rfl ?_
      refine g_callVi C (wO cJ o ot ++ ((wCo cI a b d mg pt bd tk ho ri lo fv hd lf la ++ wSo cI cW a b r2 hp rl cn be bw wo) ++ wL cI cZ cG a r nc nw cx cy ch rm on wx wy dm sv mu qq)) (wM cI cZ q nc nw cx cy ch rm on wx wy dm sv fv hd lf la mg pt bd tk ho ri lo us gv bs ld qs mS mD 1) [] t_X3_thrown rfl rfl (cwV 0 C.ts gL_law_X3_thrown rfl rfl rfl (by decide +kernel) ⟨Nat.le_of_ble_eq_true rfl, Nat.le_of_ble_eq_true rfl⟩) rfl rfl rfl (Nat.le_of_ble_eq_true rfl) dL_law_944 (rm_0 hkn) (fun r3v w3 hp3 => ?_)
      obtain ⟨rfl, rfl⟩ := hp3
      refine g_iload C dL_law_947 rfl ?_
      refine g_icmp_eq C 954 dL_law_949 (by decide) (fun _ => ?_) (fun c9 => absurd rfl c9)
      refine g_iload C dL_law_954 rfl ?_
      refine g_if_ne C 971 dL_law_956 (by decide) (fun _ => ?_) (fun c9 => absurd c9 (by decide))
      refine g_goto C 1332 dL_law_971 (by decide) ?_
      refine g_swap ?_
      refine g_mask [true, true, true, true, true, false, false] rfl ?_
      exact K _ _ _ _ _ _ _ _ _ _ _ _ _ _ _ _ _ _ _ _ _ _ _ _ _ _ _ _ _ _ _ _ _ _ _ _ _ _ _ hI
end LAW
