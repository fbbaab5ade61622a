/-! the law's calls, one after another -/
section LAW
variable {p : Program} {l : Launch} {e : Env} {s : State} {m : MethodId} {args : Array Value} {below : List Frame} {meth : Method} {c : Code} {D : va_G} {A : Nat → Prop} {Q : State → Prop}
variable {cI : ClassId} {cZ : ClassId} {cJ : ClassId} {cG : ClassId} {cW : ClassId} {a : Nat → Nat} {b : Nat → Nat} {d : Nat → Nat} {q : Nat → Nat} {r : Nat → Nat} {r2 : Nat → Nat} {o : Nat} {bb L i k n : Nat} {xs : Nat → Int32}
set_option maxHeartbeats 1000000 in
set_option maxRecDepth 100000 in
theorem law_use (C : CX p s m args meth c cL_law RL wsL_law D (T5 cI cZ cJ cG cW) A 7) (hl0 : l.stackTraces = false) (hX : XX A s s.heap) (hS : SCR A s bb L xs) (hi : i + 4 < L) (hkn : k + 10 ≤ 669564 ∧ n + 60 ≤ 7087412)
    (K : LK p l e s m args below meth c D A Q cI cZ cJ cG cW a b d q r r2 o (k + 10) (n + 60) [some (.ref bb), some (.ref (d 0)), some (.ref (q 0)), some (.ref o), some (.int (nI i)), none, none] 1332) : LK p l e s m args below meth c D A Q cI cZ cJ cG cW a b d q r r2 o k n [some (.ref bb), some (.ref (d 0)), some (.ref (q 0)), some (.ref o), some (.int (nI i)), none, none] 974 := by
  intro nc nw cx cy ch rm on wx wy dm sv fv hd lf la mg pt bd tk ho ri lo hp rl cn be bw wo mu qq ot us gv bs ld qs mS mD th hI
  refine g_aload_n C dL_law_974 rfl ?_
  refine g_aload_n C dL_law_975 rfl ?_
  refine g_iload C dL_law_976 rfl ?_
  refine g_iconst C 1 dL_law_978 (by decide +kernel) ?_
  refine g_iadd C (nI (i + 1)) dL_law_979 (nI_add i 1) ?_
  refine g_sld C hS (i + 1) rfl (by omega) dL_law_980 ?_
  refine g_aload_n C dL_law_981 rfl ?_
  refine gx_callH C hX (wM cI cZ q nc nw cx cy ch rm on wx wy dm sv fv hd lf la mg pt bd tk ho ri lo us gv bs ld qs mS mD th) (wO cJ o ot ++ ((wCo cI a b d mg pt bd tk ho ri lo fv hd lf la ++ wSo cI cW a b r2 hp rl cn be bw wo) ++ wL cI cZ cG a r nc nw cx cy ch rm on wx wy dm sv mu qq)) [.ref (d 0), .int (xs (i + 1)), .ref o] (t_L_use hl0 hI.1 hI.2.1 hI.ihr) (vx_cwSW 3 C.ts gL_law_L_use rfl rfl rfl (by decide +kernel) ⟨Nat.le_of_ble_eq_true rfl, Nat.le_of_ble_eq_true rfl⟩) rfl rfl rfl (Nat.le_of_ble_eq_true rfl) dL_law_982 (rm_ok hkn (by decide) (by decide)) (fun r1v w1 hp1 => ?_)
  refine g_widen (k' := k + 10) (n' := n + 60) (by omega) (by omega) ?_
  obtain ⟨rfl, H0, rfl⟩ | ⟨rfl, H1, rfl⟩ := hp1
  · skip
    refine g_istore C [some (.ref bb), some (.ref (d 0)), some (.ref (q 0)), some (.ref o), some (.int (nI i)), some (.int 0), none] dL_law_985 (by decide) rfl rfl ?_
    refine g_aload_n C dL_law_987 rfl ?_
    refine g_aload_n C dL_law_988 rfl ?_
    refine g_iload C dL_law_989 rfl ?_
    refine g_iconst C 1 dL_law_991 (by decide +kernel) ?_
    refine g_iadd C (nI (i + 1)) dL_law_992 (nI_add i 1) ?_
    refine g_sld C hS (i + 1) rfl (by omega) dL_law_993 ?_
    refine g_swap ?_
    refine g_callVi C (wO cJ o (vp_updL ot 0 (Int32.toInt64 (fus rm sv dm nw (xs (i + 1)).toNatClampNeg))) ++ ((wCo cI a b d mg pt bd tk ho ri lo fv hd lf la ++ wSo cI cW a b r2 hp rl cn be bw wo) ++ wL cI cZ cG a r nc nw cx cy ch rm on wx wy dm sv mu qq)) (wM cI cZ q nc nw cx cy ch rm on wx wy dm sv fv hd lf la mg pt bd tk ho ri lo us gv bs ld qs mS mD th) [.int (xs (i + 1))] (t_X3_use hI.1 hI.2.1 hI.ihr) rfl rfl (cwV 1 C.ts gL_law_X3_use rfl rfl rfl (by decide +kernel) ⟨Nat.le_of_ble_eq_true rfl, Nat.le_of_ble_eq_true rfl⟩) rfl rfl rfl (Nat.le_of_ble_eq_true rfl) dL_law_994 (rm_0 hkn) (fun r2v w2 hp2 => ?_)
    obtain ⟨M0, hr2, rfl⟩ | ⟨M1, rfl⟩ := hp2
    · skip
      refine g_istore C [some (.ref bb), some (.ref (d 0)), some (.ref (q 0)), some (.ref o), some (.int (nI i)), some (.int 0), some (.int r2v)] dL_law_997 (by decide) rfl rfl ?_
      refine g_aload_n C dL_law_999 rfl ?_
      refine g_callVi C (wO cJ o (vp_updL ot 0 (Int32.toInt64 (fus rm sv dm nw (xs (i + 1)).toNatClampNeg))) ++ ((wCo cI a b d mg pt bd tk ho ri lo fv hd lf la ++ wSo cI cW a b r2 hp rl cn be bw wo) ++ wL cI cZ cG a r nc nw cx cy ch rm on wx wy dm sv mu qq)) (wM cI cZ q nc nw cx cy ch rm on wx wy dm sv fv hd lf la mg pt bd tk ho ri lo us gv bs ld qs mS mD 0) [] t_X3_thrown rfl rfl (cwV 0 C.ts gL_law_X3_thrown rfl rfl rfl (by decide +kernel) ⟨Nat.le_of_ble_eq_true rfl, Nat.le_of_ble_eq_true rfl⟩) rfl rfl rfl (Nat.le_of_ble_eq_true rfl) dL_law_1000 (rm_0 hkn) (fun r3v w3 hp3 => ?_)
      obtain ⟨rfl, rfl⟩ := hp3
      refine g_iload C dL_law_1003 rfl ?_
      refine g_icmp_eq C 1010 dL_law_1005 (by decide) (fun _ => ?_) (fun c9 => absurd rfl c9)
      refine g_iload C dL_law_1010 rfl ?_
      refine g_if_ne C 1027 dL_law_1012 (by decide) (fun c9 => absurd rfl c9) (fun _ => ?_)
      refine g_aload_n C dL_law_1015 rfl ?_
      refine g_iconst C 0 dL_law_1016 (by decide +kernel) ?_
      refine g_lald C 0 2 rfl rfl 0 rfl (by decide) (by decide) (Int32.toInt64 (fus rm sv dm nw (xs (i + 1)).toNatClampNeg)) rfl dL_law_1017 ?_
      refine g_iload C dL_law_1018 rfl ?_
      refine g_i2l C (Int32.toInt64 r2v) dL_law_1020 rfl ?_
      refine g_lcmp C dL_law_1021 ?_
      refine g_if_eq C 1027 dL_law_1022 (by decide) (fun _ => ?_) (fun c9 => absurd (lc_eq hr2.symm) c9)
      refine g_goto C 1332 dL_law_1027 (by decide) ?_
      refine g_swap ?_
      refine g_mask [true, true, true, true, true, false, false] rfl ?_
      exact K _ _ _ _ _ _ _ _ _ _ _ _ _ _ _ _ _ _ _ _ _ _ _ _ _ _ _ _ _ _ _ _ _ _ _ _ _ _ _ hI
    · exact absurd (H0) (M1)
  · skip
    refine g_istore C [some (.ref bb), some (.ref (d 0)), some (.ref (q 0)), some (.ref o), some (.int (nI i)), some (.int 1), none] dL_law_985 (by decide) rfl rfl ?_
    refine g_aload_n C dL_law_987 rfl ?_
    refine g_aload_n C dL_law_988 rfl ?_
    refine g_iload C dL_law_989 rfl ?_
    refine g_iconst C 1 dL_law_991 (by decide +kernel) ?_
    refine g_iadd C (nI (i + 1)) dL_law_992 (nI_add i 1) ?_
    refine g_sld C hS (i + 1) rfl (by omega) dL_law_993 ?_
    refine g_swap ?_
    refine g_callVi C (wO cJ o ot ++ ((wCo cI a b d mg pt bd tk ho ri lo fv hd lf la ++ wSo cI cW a b r2 hp rl cn be bw wo) ++ wL cI cZ cG a r nc nw cx cy ch rm on wx wy dm sv mu qq)) (wM cI cZ q nc nw cx cy ch rm on wx wy dm sv fv hd lf la mg pt bd tk ho ri lo us gv bs ld qs mS mD th) [.int (xs (i + 1))] (t_X3_use hI.1 hI.2.1 hI.ihr) rfl rfl (cwV 1 C.ts gL_law_X3_use rfl rfl rfl (by decide +kernel) ⟨Nat.le_of_ble_eq_true rfl, Nat.le_of_ble_eq_true rfl⟩) rfl rfl rfl (Nat.le_of_ble_eq_true rfl) dL_law_994 (rm_0 hkn) (fun r2v w2 hp2 => ?_)
    obtain ⟨M0, hr2, rfl⟩ | ⟨M1, rfl⟩ := hp2
    · exact absurd (M0) (H1)
    · skip
      refine g_istore C [some (.ref bb), some (.ref (d 0)), some (.ref (q 0)), some (.ref o), some (.int (nI i)), some (.int 1), some (.int r2v)] dL_law_997 (by decide) rfl rfl ?_
      refine g_aload_n C dL_law_999 rfl ?_
      refine g_callVi C (wO cJ o ot ++ ((wCo cI a b d mg pt bd tk ho ri lo fv hd lf la ++ wSo cI cW a b r2 hp rl cn be bw wo) ++ wL cI cZ cG a r nc nw cx cy ch rm on wx wy dm sv mu qq)) (wM cI cZ q nc nw cx cy ch rm on wx wy dm sv fv hd lf la mg pt bd tk ho ri lo us gv bs ld qs mS mD 1) [] t_X3_thrown rfl rfl (cwV 0 C.ts gL_law_X3_thrown rfl rfl rfl (by decide +kernel) ⟨Nat.le_of_ble_eq_true rfl, Nat.le_of_ble_eq_true rfl⟩) rfl rfl rfl (Nat.le_of_ble_eq_true rfl) dL_law_1000 (rm_0 hkn) (fun r3v w3 hp3 => ?_)
      obtain ⟨rfl, rfl⟩ := hp3
      refine g_iload C dL_law_1003 rfl ?_
      refine g_icmp_eq C 1010 dL_law_1005 (by decide) (fun _ => ?_) (fun c9 => absurd rfl c9)
      refine g_iload C dL_law_1010 rfl ?_
      refine g_if_ne C 1027 dL_law_1012 (by decide) (fun _ => ?_) (fun c9 => absurd c9 (by decide))
      refine g_goto C 1332 dL_law_1027 (by decide) ?_
      refine g_swap ?_
      refine g_mask [true, true, true, true, true, false, false] rfl ?_
      exact K _ _ _ _ _ _ _ _ _ _ _ _ _ _ _ _ _ _ _ _ _ _ _ _ _ _ _ _ _ _ _ _ _ _ _ _ _ _ _ hI
set_option maxHeartbeats 1000000 in
set_option maxRecDepth 100000 in
theorem law_servedBy (C : CX p s m args meth c cL_law RL wsL_law D (T5 cI cZ cJ cG cW) A 7) (hl0 : l.stackTraces = false) (hX : XX A s s.heap) (hS : SCR A s bb L xs) (hi : i + 4 < L) (hkn : k + 10 ≤ 669564 ∧ n + 60 ≤ 7087412)
    (K : LK p l e s m args below meth c D A Q cI cZ cJ cG cW a b d q r r2 o (k + 10) (n + 60) [some (.ref bb), some (.ref (d 0)), some (.ref (q 0)), some (.ref o), some (.int (nI i)), none, none] 1332) : LK p l e s m args below meth c D A Q cI cZ cJ cG cW a b d q r r2 o k n [some (.ref bb), some (.ref (d 0)), some (.ref (q 0)), some (.ref o), some (.int (nI i)), none, none] 1030 := by
  intro nc nw cx cy ch rm on wx wy dm sv fv hd lf la mg pt bd tk ho ri lo hp rl cn be bw wo mu qq ot us gv bs ld qs mS mD th hI
  refine g_aload_n C dL_law_1030 rfl ?_
  refine g_aload_n C dL_law_1031 rfl ?_
  refine g_iload C dL_law_1032 rfl ?_
  refine g_iconst C 1 dL_law_1034 (by decide +kernel) ?_
  refine g_iadd C (nI (i + 1)) dL_law_1035 (nI_add i 1) ?_
  refine g_sld C hS (i + 1) rfl (by omega) dL_law_1036 ?_
  refine g_aload_n C dL_law_1037 rfl ?_
  refine gx_callH C hX (wM cI cZ q nc nw cx cy ch rm on wx wy dm sv fv hd lf la mg pt bd tk ho ri lo us gv bs ld qs mS mD th) (wO cJ o ot ++ ((wCo cI a b d mg pt bd tk ho ri lo fv hd lf la ++ wSo cI cW a b r2 hp rl cn be bw wo) ++ wL cI cZ cG a r nc nw cx cy ch rm on wx wy dm sv mu qq)) [.ref (d 0), .int (xs (i + 1)), .ref o] (t_L_servedBy hl0 hI.1 hI.2.1) (vx_cwSW 3 C.ts gL_law_L_servedBy rfl rfl rfl (by decide +kernel) ⟨Nat.le_of_ble_eq_true rfl, Nat.le_of_ble_eq_true rfl⟩) rfl rfl rfl (Nat.le_of_ble_eq_true rfl) dL_law_1038 (rm_ok hkn (by decide) (by decide)) (fun r1v w1 hp1 => ?_)
  refine g_widen (k' := k + 10) (n' := n + 60) (by omega) (by omega) ?_
  obtain ⟨rfl, H0, rfl⟩ | ⟨rfl, H1, rfl⟩ := hp1
  · skip
    refine g_istore C [some (.ref bb), some (.ref (d 0)), some (.ref (q 0)), some (.ref o), some (.int (nI i)), some (.int 0), none] dL_law_1041 (by decide) rfl rfl ?_
    refine g_aload_n C dL_law_1043 rfl ?_
    refine g_aload_n C dL_law_1044 rfl ?_
    refine g_iload C dL_law_1045 rfl ?_
    refine g_iconst C 1 dL_law_1047 (by decide +kernel) ?_
    refine g_iadd C (nI (i + 1)) dL_law_1048 (nI_add i 1) ?_
    refine g_sld C hS (i + 1) rfl (by omega) dL_law_1049 ?_
    refine g_swap ?_
    refine g_callVi C (wO cJ o (vp_updL ot 0 (Int32.toInt64 (sv (xs (i + 1)).toNatClampNeg))) ++ ((wCo cI a b d mg pt bd tk ho ri lo fv hd lf la ++ wSo cI cW a b r2 hp rl cn be bw wo) ++ wL cI cZ cG a r nc nw cx cy ch rm on wx wy dm sv mu qq)) (wM cI cZ q nc nw cx cy ch rm on wx wy dm sv fv hd lf la mg pt bd tk ho ri lo us gv bs ld qs mS mD th) [.int (xs (i + 1))] (t_X3_servedBy hI.1 hI.2.1) rfl rfl (cwV 1 C.ts gL_law_X3_servedBy rfl rfl rfl (by decide +kernel) ⟨Nat.le_of_ble_eq_true rfl, Nat.le_of_ble_eq_true rfl⟩) rfl rfl rfl (Nat.le_of_ble_eq_true rfl) dL_law_1050 (rm_0 hkn) (fun r2v w2 hp2 => ?_)
    obtain ⟨M0, hr2, rfl⟩ | ⟨M1, rfl⟩ := hp2
    · skip
      refine g_istore C [some (.ref bb), some (.ref (d 0)), some (.ref (q 0)), some (.ref o), some (.int (nI i)), some (.int 0), some (.int r2v)] dL_law_1053 (by decide) rfl rfl ?_
      refine g_aload_n C dL_law_1055 rfl ?_
      refine g_callVi C (wO cJ o (vp_updL ot 0 (Int32.toInt64 (sv (xs (i + 1)).toNatClampNeg))) ++ ((wCo cI a b d mg pt bd tk ho ri lo fv hd lf la ++ wSo cI cW a b r2 hp rl cn be bw wo) ++ wL cI cZ cG a r nc nw cx cy ch rm on wx wy dm sv mu qq)) (wM cI cZ q nc nw cx cy ch rm on wx wy dm sv fv hd lf la mg pt bd tk ho ri lo us gv bs ld qs mS mD 0) [] t_X3_thrown rfl rfl (cwV 0 C.ts gL_law_X3_thrown rfl rfl rfl (by decide +kernel) ⟨Nat.le_of_ble_eq_true rfl, Nat.le_of_ble_eq_true rfl⟩) rfl rfl rfl (Nat.le_of_ble_eq_true rfl) dL_law_1056 (rm_0 hkn) (fun r3v w3 hp3 => ?_)
      obtain ⟨rfl, rfl⟩ := hp3
      refine g_iload C dL_law_1059 rfl ?_
      refine g_icmp_eq C 1066 dL_law_1061 (by decide) (fun _ => ?_) (fun c9 => absurd rfl c9)
      refine g_iload C dL_law_1066 rfl ?_
      refine g_if_ne C 1083 dL_law_1068 (by decide) (fun c9 => absurd rfl c9) (fun _ => ?_)
      refine g_aload_n C dL_law_1071 rfl ?_
      refine g_iconst C 0 dL_law_1072 (by decide +kernel) ?_
      refine g_lald C 0 2 rfl rfl 0 rfl (by decide) (by decide) (Int32.toInt64 (sv (xs (i + 1)).toNatClampNeg)) rfl dL_law_1073 ?_
      refine g_iload C dL_law_1074 rfl ?_
      refine g_i2l C (Int32.toInt64 r2v) dL_law_1076 rfl ?_
      refine g_lcmp C dL_law_1077 ?_
      refine g_if_eq C 1083 dL_law_1078 (by decide) (fun _ => ?_) (fun c9 => absurd (lc_eq hr2.symm) c9)
      refine g_goto C 1332 dL_law_1083 (by decide) ?_
      refine g_swap ?_
      refine g_mask [true, true, true, true, true, false, false] rfl ?_
      exact K _ _ _ _ _ _ _ _ _ _ _ _ _ _ _ _ _ _ _ _ _ _ _ _ _ _ _ _ _ _ _ _ _ _ _ _ _ _ _ hI
    · exact absurd (H0) (M1)
  · skip
    refine g_istore C [some (.ref bb), some (.ref (d 0)), some (.ref (q 0)), some (.ref o), some (.int (nI i)), some (.int 1), none] dL_law_1041 (by decide) rfl rfl ?_
    refine g_aload_n C dL_law_1043 rfl ?_
    refine g_aload_n C dL_law_1044 rfl ?_
    refine g_iload C dL_law_1045 rfl ?_
    refine g_iconst C 1 dL_law_1047 (by decide +kernel) ?_
    refine g_iadd C (nI (i + 1)) dL_law_1048 (nI_add i 1) ?_
    refine g_sld C hS (i + 1) rfl (by omega) dL_law_1049 ?_
    refine g_swap ?_
    refine g_callVi C (wO cJ o ot ++ ((wCo cI a b d mg pt bd tk ho ri lo fv hd lf la ++ wSo cI cW a b r2 hp rl cn be bw wo) ++ wL cI cZ cG a r nc nw cx cy ch rm on wx wy dm sv mu qq)) (wM cI cZ q nc nw cx cy ch rm on wx wy dm sv fv hd lf la mg pt bd tk ho ri lo us gv bs ld qs mS mD th) [.int (xs (i + 1))] (t_X3_servedBy hI.1 hI.2.1) rfl rfl (cwV 1 C.ts gL_law_X3_servedBy rfl rfl rfl (by decide +kernel) ⟨Nat.le_of_ble_eq_true rfl, Nat.le_of_ble_eq_true rfl⟩) rfl rfl rfl (Nat.le_of_ble_eq_true rfl) dL_law_1050 (rm_0 hkn) (fun r2v w2 hp2 => ?_)
    obtain ⟨M0, hr2, rfl⟩ | ⟨M1, rfl⟩ := hp2
    · exact absurd (M0) (H1)
    · skip
      refine g_istore C [some (.ref bb), some (.ref (d 0)), some (.ref (q 0)), some (.ref o), some (.int (nI i)), some (.int 1), some (.int r2v)] dL_law_1053 (by decide) rfl rfl ?_
      refine g_aload_n C dL_law_1055 rfl ?_
      refine g_callVi C (wO cJ o ot ++ ((wCo cI a b d mg pt bd tk ho ri lo fv hd lf la ++ wSo cI cW a b r2 hp rl cn be bw wo) ++ wL cI cZ cG a r nc nw cx cy ch rm on wx wy dm sv mu qq)) (wM cI cZ q nc nw cx cy ch rm on wx wy dm sv fv hd lf la mg pt bd tk ho ri lo us gv bs ld qs mS mD 1) [] t_X3_thrown rfl rfl (cwV 0 C.ts gL_law_X3_thrown rfl rfl rfl (by decide +kernel) ⟨Nat.le_of_ble_eq_true rfl, Nat.le_of_ble_eq_true rfl⟩) rfl rfl rfl (Nat.le_of_ble_eq_true rfl) dL_law_1056 (rm_0 hkn) (fun r3v w3 hp3 => ?_)
      obtain ⟨rfl, rfl⟩ := hp3
      refine g_iload C dL_law_1059 rfl ?_
      refine g_icmp_eq C 1066 dL_law_1061 (by decide) (fun _ => ?_) (fun c9 => absurd rfl c9)
      refine g_iload C dL_law_1066 rfl ?_
      refine g_if_ne C 1083 dL_law_1068 (by decide) (fun _ => ?_) (fun c9 => absurd c9 (by decide))
      refine g_goto C 1332 dL_law_1083 (by decide) ?_
      refine g_swap ?_
      refine g_mask [true, true, true, true, true, false, false] rfl ?_
      exact K _ _ _ _ _ _ _ _ _ _ _ _ _ _ _ _ _ _ _ _ _ _ _ _ _ _ _ _ _ _ _ _ _ _ _ _ _ _ _ hI
set_option maxHeartbeats 1000000 in
set_option maxRecDepth 100000 in
theorem law_favourite (C : CX p s m args meth c cL_law RL wsL_law D (T5 cI cZ cJ cG cW) A 7) (hl0 : l.stackTraces = false) (hX : XX A s s.heap) (hS : SCR A s bb L xs) (hi : i + 4 < L) (hkn : k + 10 ≤ 669564 ∧ n + 60 ≤ 7087412)
    (K : LK p l e s m args below meth c D A Q cI cZ cJ cG cW a b d q r r2 o (k + 10) (n + 60) [some (.ref bb), some (.ref (d 0)), some (.ref (q 0)), some (.ref o), some (.int (nI i)), none, none] 1332) : LK p l e s m args below meth c D A Q cI cZ cJ cG cW a b d q r r2 o k n [some (.ref bb), some (.ref (d 0)), some (.ref (q 0)), some (.ref o), some (.int (nI i)), none, none] 1086 := by
  intro nc nw cx cy ch rm on wx wy dm sv fv hd lf la mg pt bd tk ho ri lo hp rl cn be bw wo mu qq ot us gv bs ld qs mS mD th hI
  refine g_aload_n C dL_law_1086 rfl ?_
  refine g_aload_n C dL_law_1087 rfl ?_
  refine g_iload C dL_law_1088 rfl ?_
  refine g_iconst C 1 dL_law_1090 (by decide +kernel) ?_
  refine g_iadd C (nI (i + 1)) dL_law_1091 (nI_add i 1) ?_
  refine g_sld C hS (i + 1) rfl (by omega) dL_law_1092 ?_
  refine g_aload_n C dL_law_1093 rfl ?_
  refine gx_callH C hX (wM cI cZ q nc nw cx cy ch rm on wx wy dm sv fv hd lf la mg pt bd tk ho ri lo us gv bs ld qs mS mD th) (wO cJ o ot ++ ((wCo cI a b d mg pt bd tk ho ri lo fv hd lf la ++ wSo cI cW a b r2 hp rl cn be bw wo) ++ wL cI cZ cG a r nc nw cx cy ch rm on wx wy dm sv mu qq)) [.ref (d 0), .int (xs (i + 1)), .ref o] (t_L_favourite hl0 hI.1 hI.2.1) (vx_cwSW 3 C.ts gL_law_L_favourite rfl rfl rfl (by decide +kernel) ⟨Nat.le_of_ble_eq_true rfl, Nat.le_of_ble_eq_true rfl⟩) rfl rfl rfl (Nat.le_of_ble_eq_true rfl) dL_law_1094 (rm_ok hkn (by decide) (by decide)) (fun r1v w1 hp1 => ?_)
  refine g_widen (k' := k + 10) (n' := n + 60) (by omega) (by omega) ?_
  obtain ⟨rfl, H0, rfl⟩ | ⟨rfl, H1, rfl⟩ := hp1
  · skip
    refine g_istore C [some (.ref bb), some (.ref (d 0)), some (.ref (q 0)), some (.ref o), some (.int (nI i)), some (.int 0), none] dL_law_1097 (by decide) rfl rfl ?_
    refine g_aload_n C dL_law_1099 rfl ?_
    refine g_aload_n C dL_law_1100 rfl ?_
    refine g_iload C dL_law_1101 rfl ?_
    refine g_iconst C 1 dL_law_1103 (by decide +kernel) ?_
    refine g_iadd C (nI (i + 1)) dL_law_1104 (nI_add i 1) ?_
    refine g_sld C hS (i + 1) rfl (by omega) dL_law_1105 ?_
    refine g_swap ?_
    refine g_callVi C (wO cJ o (vp_updL ot 0 (Int32.toInt64 (fv (xs (i + 1)).toNatClampNeg))) ++ ((wCo cI a b d mg pt bd tk ho ri lo fv hd lf la ++ wSo cI cW a b r2 hp rl cn be bw wo) ++ wL cI cZ cG a r nc nw cx cy ch rm on wx wy dm sv mu qq)) (wM cI cZ q nc nw cx cy ch rm on wx wy dm sv fv hd lf la mg pt bd tk ho ri lo us gv bs ld qs mS mD th) [.int (xs (i + 1))] (t_X3_favourite hI.1 hI.2.1) rfl rfl (cwV 1 C.ts gL_law_X3_favourite rfl rfl rfl (by decide +kernel) ⟨Nat.le_of_ble_eq_true rfl, Nat.le_of_ble_eq_true rfl⟩) rfl rfl rfl (Nat.le_of_ble_eq_true rfl) dL_law_1106 (rm_0 hkn) (fun r2v w2 hp2 => ?_)
    obtain ⟨M0, hr2, rfl⟩ | ⟨M1, rfl⟩ := hp2
    · skip
      refine g_istore C [some (.ref bb), some (.ref (d 0)), some (.ref (q 0)), some (.ref o), some (.int (nI i)), some (.int 0), some (.int r2v)] dL_law_1109 (by decide) rfl rfl ?_
      refine g_aload_n C dL_law_1111 rfl ?_
      refine g_callVi C (wO cJ o (vp_updL ot 0 (Int32.toInt64 (fv (xs (i + 1)).toNatClampNeg))) ++ ((wCo cI a b d mg pt bd tk ho ri lo fv hd lf la ++ wSo cI cW a b r2 hp rl cn be bw wo) ++ wL cI cZ cG a r nc nw cx cy ch rm on wx wy dm sv mu qq)) (wM cI cZ q nc nw cx cy ch rm on wx wy dm sv fv hd lf la mg pt bd tk ho ri lo us gv bs ld qs mS mD 0) [] t_X3_thrown rfl rfl (cwV 0 C.ts gL_law_X3_thrown rfl rfl rfl (by decide +kernel) ⟨Nat.le_of_ble_eq_true rfl, Nat.le_of_ble_eq_true rfl⟩) rfl rfl rfl (Nat.le_of_ble_eq_true rfl) dL_law_1112 (rm_0 hkn) (fun r3v w3 hp3 => ?_)
      obtain ⟨rfl, rfl⟩ := hp3
      refine g_iload C dL_law_1115 rfl ?_
      refine g_icmp_eq C 1122 dL_law_1117 (by decide) (fun _ => ?_) (fun c9 => absurd rfl c9)
      refine g_iload C dL_law_1122 rfl ?_
      refine g_if_ne C 1139 dL_law_1124 (by decide) (fun c9 => absurd rfl c9) (fun _ => ?_)
      refine g_aload_n C dL_law_1127 rfl ?_
      refine g_iconst C 0 dL_law_1128 (by decide +kernel) ?_
      refine g_lald C 0 2 rfl rfl 0 rfl (by decide) (by decide) (Int32.toInt64 (fv (xs (i + 1)).toNatClampNeg)) rfl dL_law_1129 ?_
      refine g_iload C dL_law_1130 rfl ?_
      refine g_i2l C (Int32.toInt64 r2v) dL_law_1132 rfl ?_
      refine g_lcmp C dL_law_1133 ?_
      refine g_if_eq C 1139 dL_law_1134 (by decide) (fun _ => ?_) (fun c9 => absurd (lc_eq hr2.symm) c9)
      refine g_goto C 1332 dL_law_1139 (by decide) ?_
      refine g_swap ?_
      refine g_mask [true, true, true, true, true, false, false] rfl ?_
      exact K _ _ _ _ _ _ _ _ _ _ _ _ _ _ _ _ _ _ _ _ _ _ _ _ _ _ _ _ _ _ _ _ _ _ _ _ _ _ _ hI
    · exact absurd (H0) (M1)
  · skip
    refine g_istore C [some (.ref bb), some (.ref (d 0)), some (.ref (q 0)), some (.ref o), some (.int (nI i)), some (.int 1), none] dL_law_1097 (by decide) rfl rfl ?_
    refine g_aload_n C dL_law_1099 rfl ?_
    refine g_aload_n C dL_law_1100 rfl ?_
    refine g_iload C dL_law_1101 rfl ?_
    refine g_iconst C 1 dL_law_1103 (by decide +kernel) ?_
    refine g_iadd C (nI (i + 1)) dL_law_1104 (nI_add i 1) ?_
    refine g_sld C hS (i + 1) rfl (by omega) dL_law_1105 ?_
    refine g_swap ?_
    refine g_callVi C (wO cJ o ot ++ ((wCo cI a b d mg pt bd tk ho ri lo fv hd lf la ++ wSo cI cW a b r2 hp rl cn be bw wo) ++ wL cI cZ cG a r nc nw cx cy ch rm on wx wy dm sv mu qq)) (wM cI cZ q nc nw cx cy ch rm on wx wy dm sv fv hd lf la mg pt bd tk ho ri lo us gv bs ld qs mS mD th) [.int (xs (i + 1))] (t_X3_favourite hI.1 hI.2.1) rfl rfl (cwV 1 C.ts gL_law_X3_favourite rfl rfl rfl (by decide +kernel) ⟨Nat.le_of_ble_eq_true rfl, Nat.le_of_ble_eq_true rfl⟩) rfl rfl rfl (Nat.le_of_ble_eq_true rfl) dL_law_1106 (rm_0 hkn) (fun r2v w2 hp2 => ?_)
    obtain ⟨M0, hr2, rfl⟩ | ⟨M1, rfl⟩ := hp2
    · exact absurd (M0) (H1)
    · skip
      refine g_istore C [some (.ref bb), some (.ref (d 0)), some (.ref (q 0)), some (.ref o), some (.int (nI i)), some (.int 1), some (.int r2v)] dL_law_1109 (by decide) rfl rfl ?_
      refine g_aload_n C dL_law_1111 rfl ?_
      refine g_callVi C (wO cJ o ot ++ ((wCo cI a b d mg pt bd tk ho ri lo fv hd lf la ++ wSo cI cW a b r2 hp rl cn be bw wo) ++ wL cI cZ cG a r nc nw cx cy ch rm on wx wy dm sv mu qq)) (wM cI cZ q nc nw cx cy ch rm on wx wy dm sv fv hd lf la mg pt bd tk ho ri lo us gv bs ld qs mS mD 1) [] t_X3_thrown rfl rfl (cwV 0 C.ts gL_law_X3_thrown rfl rfl rfl (by decide +kernel) ⟨Nat.le_of_ble_eq_true rfl, Nat.le_of_ble_eq_true rfl⟩) rfl rfl rfl (Nat.le_of_ble_eq_true rfl) dL_law_1112 (rm_0 hkn) (fun r3v w3 hp3 => ?_)
      obtain ⟨rfl, rfl⟩ := hp3
      refine g_iload C dL_law_1115 rfl ?_
      refine g_icmp_eq C 1122 dL_law_1117 (by decide) (fun _ => ?_) (fun c9 => absurd rfl c9)
      refine g_iload C dL_law_1122 rfl ?_
      refine g_if_ne C 1139 dL_law_1124 (by decide) (fun _ => ?_) (fun c9 => absurd c9 (by decide))
      refine g_goto C 1332 dL_law_1139 (by decide) ?_
      refine g_swap ?_
      refine g_mask [true, true, true, true, true, false, false] rfl ?_
      exact K _ _ _ _ _ _ _ _ _ _ _ _ _ _ _ _ _ _ _ _ _ _ _ _ _ _ _ _ _ _ _ _ _ _ _ _ _ _ _ hI
set_option maxHeartbeats 1000000 in
set_option maxRecDepth 100000 in
theorem law_heldFor (C : CX p s m args meth c cL_law RL wsL_law D (T5 cI cZ cJ cG cW) A 7) (hl0 : l.stackTraces = false) (hX : XX A s s.heap) (hS : SCR A s bb L xs) (hi : i + 4 < L) (hkn : k + 10 ≤ 669564 ∧ n + 60 ≤ 7087412)
    (K : LK p l e s m args below meth c D A Q cI cZ cJ cG cW a b d q r r2 o (k + 10) (n + 60) [some (.ref bb), some (.ref (d 0)), some (.ref (q 0)), some (.ref o), some (.int (nI i)), none, none] 1332) : LK p l e s m args below meth c D A Q cI cZ cJ cG cW a b d q r r2 o k n [some (.ref bb), some (.ref (d 0)), some (.ref (q 0)), some (.ref o), some (.int (nI i)), none, none] 1142 := by
  intro nc nw cx cy ch rm on wx wy dm sv fv hd lf la mg pt bd tk ho ri lo hp rl cn be bw wo mu qq ot us gv bs ld qs mS mD th hI
  refine g_aload_n C dL_law_1142 rfl ?_
  refine g_aload_n C dL_law_1143 rfl ?_
  refine g_iload C dL_law_1144 rfl ?_
  refine g_iconst C 1 dL_law_1146 (by decide +kernel) ?_
  refine g_iadd C (nI (i + 1)) dL_law_1147 (nI_add i 1) ?_
  refine g_sld C hS (i + 1) rfl (by omega) dL_law_1148 ?_
  refine g_aload_n C dL_law_1149 rfl ?_
  refine gx_callH C hX (wM cI cZ q nc nw cx cy ch rm on wx wy dm sv fv hd lf la mg pt bd tk ho ri lo us gv bs ld qs mS mD th) (wO cJ o ot ++ ((wCo cI a b d mg pt bd tk ho ri lo fv hd lf la ++ wSo cI cW a b r2 hp rl cn be bw wo) ++ wL cI cZ cG a r nc nw cx cy ch rm on wx wy dm sv mu qq)) [.ref (d 0), .int (xs (i + 1)), .ref o] (t_L_heldFor hl0 hI.1 hI.2.1) (vx_cwSW 3 C.ts gL_law_L_heldFor rfl rfl rfl (by decide +kernel) ⟨Nat.le_of_ble_eq_true rfl, Nat.le_of_ble_eq_true rfl⟩) rfl rfl rfl (Nat.le_of_ble_eq_true rfl) dL_law_1150 (rm_ok hkn (by decide) (by decide)) (fun r1v w1 hp1 => ?_)
  refine g_widen (k' := k + 10) (n' := n + 60) (by omega) (by omega) ?_
  obtain ⟨rfl, H0, rfl⟩ | ⟨rfl, H1, rfl⟩ := hp1
  · skip
    refine g_istore C [some (.ref bb), some (.ref (d 0)), some (.ref (q 0)), some (.ref o), some (.int (nI i)), some (.int 0), none] dL_law_1153 (by decide) rfl rfl ?_
    refine g_aload_n C dL_law_1155 rfl ?_
    refine g_aload_n C dL_law_1156 rfl ?_
    refine g_iload C dL_law_1157 rfl ?_
    refine g_iconst C 1 dL_law_1159 (by decide +kernel) ?_
    refine g_iadd C (nI (i + 1)) dL_law_1160 (nI_add i 1) ?_
    refine g_sld C hS (i + 1) rfl (by omega) dL_law_1161 ?_
    refine g_swap ?_
    refine g_callVi C (wO cJ o (vp_updL ot 0 (Int32.toInt64 (hd (xs (i + 1)).toNatClampNeg))) ++ ((wCo cI a b d mg pt bd tk ho ri lo fv hd lf la ++ wSo cI cW a b r2 hp rl cn be bw wo) ++ wL cI cZ cG a r nc nw cx cy ch rm on wx wy dm sv mu qq)) (wM cI cZ q nc nw cx cy ch rm on wx wy dm sv fv hd lf la mg pt bd tk ho ri lo us gv bs ld qs mS mD th) [.int (xs (i + 1))] (t_X3_heldFor hI.1 hI.2.1) rfl rfl (cwV 1 C.ts gL_law_X3_heldFor rfl rfl rfl (by decide +kernel) ⟨Nat.le_of_ble_eq_true rfl, Nat.le_of_ble_eq_true rfl⟩) rfl rfl rfl (Nat.le_of_ble_eq_true rfl) dL_law_1162 (rm_0 hkn) (fun r2v w2 hp2 => ?_)
    obtain ⟨M0, hr2, rfl⟩ | ⟨M1, rfl⟩ := hp2
    · skip
      refine g_istore C [some (.ref bb), some (.ref (d 0)), some (.ref (q 0)), some (.ref o), some (.int (nI i)), some (.int 0), some (.int r2v)] dL_law_1165 (by decide) rfl rfl ?_
      refine g_aload_n C dL_law_1167 rfl ?_
      refine g_callVi C (wO cJ o (vp_updL ot 0 (Int32.toInt64 (hd (xs (i + 1)).toNatClampNeg))) ++ ((wCo cI a b d mg pt bd tk ho ri lo fv hd lf la ++ wSo cI cW a b r2 hp rl cn be bw wo) ++ wL cI cZ cG a r nc nw cx cy ch rm on wx wy dm sv mu qq)) (wM cI cZ q nc nw cx cy ch rm on wx wy dm sv fv hd lf la mg pt bd tk ho ri lo us gv bs ld qs mS mD 0) [] t_X3_thrown rfl rfl (cwV 0 C.ts gL_law_X3_thrown rfl rfl rfl (by decide +kernel) ⟨Nat.le_of_ble_eq_true rfl, Nat.le_of_ble_eq_true rfl⟩) rfl rfl rfl (Nat.le_of_ble_eq_true rfl) dL_law_1168 (rm_0 hkn) (fun r3v w3 hp3 => ?_)
      obtain ⟨rfl, rfl⟩ := hp3
      refine g_iload C dL_law_1171 rfl ?_
      refine g_icmp_eq C 1178 dL_law_1173 (by decide) (fun _ => ?_) (fun c9 => absurd rfl c9)
      refine g_iload C dL_law_1178 rfl ?_
      refine g_if_ne C 1195 dL_law_1180 (by decide) (fun c9 => absurd rfl c9) (fun _ => ?_)
      refine g_aload_n C dL_law_1183 rfl ?_
      refine g_iconst C 0 dL_law_1184 (by decide +kernel) ?_
      refine g_lald C 0 2 rfl rfl 0 rfl (by decide) (by decide) (Int32.toInt64 (hd (xs (i + 1)).toNatClampNeg)) rfl dL_law_1185 ?_
      refine g_iload C dL_law_1186 rfl ?_
      refine g_i2l C (Int32.toInt64 r2v) dL_law_1188 rfl ?_
      refine g_lcmp C dL_law_1189 ?_
      refine g_if_eq C 1195 dL_law_1190 (by decide) (fun _ => ?_) (fun c9 => absurd (lc_eq hr2.symm) c9)
      refine g_goto C 1332 dL_law_1195 (by decide) ?_
      refine g_swap ?_
      refine g_mask [true, true, true, true, true, false, false] rfl ?_
      exact K _ _ _ _ _ _ _ _ _ _ _ _ _ _ _ _ _ _ _ _ _ _ _ _ _ _ _ _ _ _ _ _ _ _ _ _ _ _ _ hI
    · exact absurd (H0) (M1)
  · skip
    refine g_istore C [some (.ref bb), some (.ref (d 0)), some (.ref (q 0)), some (.ref o), some (.int (nI i)), some (.int 1), none] dL_law_1153 (by decide) rfl rfl ?_
    refine g_aload_n C dL_law_1155 rfl ?_
    refine g_aload_n C dL_law_1156 rfl ?_
    refine g_iload C dL_law_1157 rfl ?_
    refine g_iconst C 1 dL_law_1159 (by decide +kernel) ?_
    refine g_iadd C (nI (i + 1)) dL_law_1160 (nI_add i 1) ?_
    refine g_sld C hS (i + 1) rfl (by omega) dL_law_1161 ?_
    refine g_swap ?_
    refine g_callVi C (wO cJ o ot ++ ((wCo cI a b d mg pt bd tk ho ri lo fv hd lf la ++ wSo cI cW a b r2 hp rl cn be bw wo) ++ wL cI cZ cG a r nc nw cx cy ch rm on wx wy dm sv mu qq)) (wM cI cZ q nc nw cx cy ch rm on wx wy dm sv fv hd lf la mg pt bd tk ho ri lo us gv bs ld qs mS mD th) [.int (xs (i + 1))] (t_X3_heldFor hI.1 hI.2.1) rfl rfl (cwV 1 C.ts gL_law_X3_heldFor rfl rfl rfl (by decide +kernel) ⟨Nat.le_of_ble_eq_true rfl, Nat.le_of_ble_eq_true rfl⟩) rfl rfl rfl (Nat.le_of_ble_eq_true rfl) dL_law_1162 (rm_0 hkn) (fun r2v w2 hp2 => ?_)
    obtain ⟨M0, hr2, rfl⟩ | ⟨M1, rfl⟩ := hp2
    · exact absurd (M0) (H1)
    · skip
      refine g_istore C [some (.ref bb), some (.ref (d 0)), some (.ref (q 0)), some (.ref o), some (.int (nI i)), some (.int 1), some (.int r2v)] dL_law_1165 (by decide) rfl rfl ?_
      refine g_aload_n C dL_law_1167 rfl ?_
      refine g_callVi C (wO cJ o ot ++ ((wCo cI a b d mg pt bd tk ho ri lo fv hd lf la ++ wSo cI cW a b r2 hp rl cn be bw wo) ++ wL cI cZ cG a r nc nw cx cy ch rm on wx wy dm sv mu qq)) (wM cI cZ q nc nw cx cy ch rm on wx wy dm sv fv hd lf la mg pt bd tk ho ri lo us gv bs ld qs mS mD 1) [] t_X3_thrown rfl rfl (cwV 0 C.ts gL_law_X3_thrown rfl rfl rfl (by decide +kernel) ⟨Nat.le_of_ble_eq_true rfl, Nat.le_of_ble_eq_true rfl⟩) rfl rfl rfl (Nat.le_of_ble_eq_true rfl) dL_law_1168 (rm_0 hkn) (fun r3v w3 hp3 => ?_)
      obtain ⟨rfl, rfl⟩ := hp3
      refine g_iload C dL_law_1171 rfl ?_
      refine g_icmp_eq C 1178 dL_law_1173 (by decide) (fun _ => ?_) (fun c9 => absurd rfl c9)
      refine g_iload C dL_law_1178 rfl ?_
      refine g_if_ne C 1195 dL_law_1180 (by decide) (fun _ => ?_) (fun c9 => absurd c9 (by decide))
      refine g_goto C 1332 dL_law_1195 (by decide) ?_
      refine g_swap ?_
      refine g_mask [true, true, true, true, true, false, false] rfl ?_
      exact K _ _ _ _ _ _ _ _ _ _ _ _ _ _ _ _ _ _ _ _ _ _ _ _ _ _ _ _ _ _ _ _ _ _ _ _ _ _ _ hI
set_option maxHeartbeats 1000000 in
set_option maxRecDepth 100000 in
theorem law_bestCell (C : CX p s m args meth c cL_law RL wsL_law D (T5 cI cZ cJ cG cW) A 7) (hl0 : l.stackTraces = false) (hX : XX A s s.heap) (hS : SCR A s bb L xs) (hi : i + 4 < L) (hkn : k + 10 ≤ 669564 ∧ n + 60 ≤ 7087412)
    (K : LK p l e s m args below meth c D A Q cI cZ cJ cG cW a b d q r r2 o (k + 10) (n + 60) [some (.ref bb), some (.ref (d 0)), some (.ref (q 0)), some (.ref o), some (.int (nI i)), none, none] 1332) : LK p l e s m args below meth c D A Q cI cZ cJ cG cW a b d q r r2 o k n [some (.ref bb), some (.ref (d 0)), some (.ref (q 0)), some (.ref o), some (.int (nI i)), none, none] 1276 := by
  intro nc nw cx cy ch rm on wx wy dm sv fv hd lf la mg pt bd tk ho ri lo hp rl cn be bw wo mu qq ot us gv bs ld qs mS mD th hI
  refine g_aload_n C dL_law_1276 rfl ?_
  refine g_aload_n C dL_law_1277 rfl ?_
  refine g_iload C dL_law_1278 rfl ?_
  refine g_iconst C 1 dL_law_1280 (by decide +kernel) ?_
  refine g_iadd C (nI (i + 1)) dL_law_1281 (nI_add i 1) ?_
  refine g_sld C hS (i + 1) rfl (by omega) dL_law_1282 ?_
  refine g_aload_n C dL_law_1283 rfl ?_
  refine gx_callH C hX (wM cI cZ q nc nw cx cy ch rm on wx wy dm sv fv hd lf la mg pt bd tk ho ri lo us gv bs ld qs mS mD th) (wO cJ o ot ++ ((wCo cI a b d mg pt bd tk ho ri lo fv hd lf la ++ wSo cI cW a b r2 hp rl cn be bw wo) ++ wL cI cZ cG a r nc nw cx cy ch rm on wx wy dm sv mu qq)) [.ref (d 0), .int (xs (i + 1)), .ref o] (t_L_bestCell hl0 hI.1 hI.2.1 hI.ihr hI.ihg (hI.iGQ on sv mu)) (vx_cwSW 3 C.ts gL_law_L_bestCell rfl rfl rfl (by decide +kernel) ⟨Nat.le_of_ble_eq_true rfl, Nat.le_of_ble_eq_true rfl⟩) rfl rfl rfl (Nat.le_of_ble_eq_true rfl) dL_law_1284 (rm_ok hkn (by decide) (by decide)) (fun r1v w1 hp1 => ?_)
  refine g_widen (k' := k + 10) (n' := n + 60) (by omega) (by omega) ?_
  obtain ⟨z, P, Y, rfl, H0, rfl, hz⟩ | ⟨rfl, H1, rfl⟩ := hp1
  · skip
    refine g_istore C [some (.ref bb), some (.ref (d 0)), some (.ref (q 0)), some (.ref o), some (.int (nI i)), some (.int 0), none] dL_law_1287 (by decide) rfl rfl ?_
    refine g_aload_n C dL_law_1289 rfl ?_
    refine g_aload_n C dL_law_1290 rfl ?_
    refine g_iload C dL_law_1291 rfl ?_
    refine g_iconst C 1 dL_law_1293 (by decide +kernel) ?_
    refine g_iadd C (nI (i + 1)) dL_law_1294 (nI_add i 1) ?_
    refine g_sld C hS (i + 1) rfl (by omega) dL_law_1295 ?_
    refine g_swap ?_
    refine g_callVi C (wO cJ o (vp_updL ot 0 (Int32.toInt64 (z.2.2.1 (xs (i + 1)).toNatClampNeg))) ++ ((wCo cI a b d mg pt bd tk ho ri lo fv hd lf la ++ wSo cI cW a b r2 P z.1 z.2.1 z.2.2.1 z.2.2.2 Y) ++ wL cI cZ cG a r nc nw cx cy ch rm on wx wy dm sv (fil nc (fus rm sv dm nw) mu) (fil2 nw nc (fun w c => fqu cx cy ch on wx wy (fil nc (fus rm sv dm nw) mu) nc w c) qq))) (wM cI cZ q nc nw cx cy ch rm on wx wy dm sv fv hd lf la mg pt bd tk ho ri lo us gv bs ld qs mS mD th) [.int (xs (i + 1))] (t_X3_bestCell hI.1 hI.2.1 hI.ihr hI.ihg (hI.iGQ on) (NXT_all nc nw hI.1)) rfl rfl (cwV 1 C.ts gL_law_X3_bestCell rfl rfl rfl (by decide +kernel) ⟨Nat.le_of_ble_eq_true rfl, Nat.le_of_ble_eq_true rfl⟩) rfl rfl rfl (Nat.le_of_ble_eq_true rfl) dL_law_1296 (rm_0 hkn) (fun r2v w2 hp2 => ?_)
    obtain ⟨M0, gw, L9, Qs, hr2, rfl⟩ | ⟨M1, rfl⟩ := hp2
    · skip
      refine g_istore C [some (.ref bb), some (.ref (d 0)), some (.ref (q 0)), some (.ref o), some (.int (nI i)), some (.int 0), some (.int r2v)] dL_law_1299 (by decide) rfl rfl ?_
      refine g_aload_n C dL_law_1301 rfl ?_
      refine g_callVi C (wO cJ o (vp_updL ot 0 (Int32.toInt64 (z.2.2.1 (xs (i + 1)).toNatClampNeg))) ++ ((wCo cI a b d mg pt bd tk ho ri lo fv hd lf la ++ wSo cI cW a b r2 P z.1 z.2.1 z.2.2.1 z.2.2.2 Y) ++ wL cI cZ cG a r nc nw cx cy ch rm on wx wy dm sv (fil nc (fus rm sv dm nw) mu) (fil2 nw nc (fun w c => fqu cx cy ch on wx wy (fil nc (fus rm sv dm nw) mu) nc w c) qq))) (wM cI cZ q nc nw cx cy ch rm on wx wy dm sv fv hd lf la mg pt bd tk ho ri lo (fil nc (fus rm sv dm nw) us) gw ((fas on rm dm bd (fqu cx cy ch on wx wy (fil nc (fus rm sv dm nw) us) nc) nc nw (fil nw (fun _ => nI nc) bs) ((nc + 1) ^ nw)).2.2.2) L9 Qs ((fas on rm dm bd (fqu cx cy ch on wx wy (fil nc (fus rm sv dm nw) us) nc) nc nw (fil nw (fun _ => nI nc) bs) ((nc + 1) ^ nw)).1) ((fas on rm dm bd (fqu cx cy ch on wx wy (fil nc (fus rm sv dm nw) us) nc) nc nw (fil nw (fun _ => nI nc) bs) ((nc + 1) ^ nw)).2.2.1) 0) [] t_X3_thrown rfl rfl (cwV 0 C.ts gL_law_X3_thrown rfl rfl rfl (by decide +kernel) ⟨Nat.le_of_ble_eq_true rfl, Nat.le_of_ble_eq_true rfl⟩) rfl rfl rfl (Nat.le_of_ble_eq_true rfl) dL_law_1302 (rm_0 hkn) (fun r3v w3 hp3 => ?_)
      obtain ⟨rfl, rfl⟩ := hp3
      refine g_iload C dL_law_1305 rfl ?_
      refine g_icmp_eq C 1312 dL_law_1307 (by decide) (fun _ => ?_) (fun c9 => absurd rfl c9)
      refine g_iload C dL_law_1312 rfl ?_
      refine g_if_ne C 1329 dL_law_1314 (by decide) (fun c9 => absurd rfl c9) (fun _ => ?_)
      refine g_aload_n C dL_law_1317 rfl ?_
      refine g_iconst C 0 dL_law_1318 (by decide +kernel) ?_
      refine g_lald C 0 2 rfl rfl 0 rfl (by decide) (by decide) (Int32.toInt64 (z.2.2.1 (xs (i + 1)).toNatClampNeg)) rfl dL_law_1319 ?_
      refine g_iload C dL_law_1320 rfl ?_
      refine g_i2l C (Int32.toInt64 r2v) dL_law_1322 rfl ?_
      refine g_lcmp C dL_law_1323 ?_
      refine g_if_eq C 1329 dL_law_1324 (by decide) (fun _ => ?_) (fun c9 => absurd (lc_eq ((ag_best (hI.QB on us) (GW_opt (SH_B (hI.QB on us)) QF_eq hz) (RI_all hI.2.1 (hI.QB on us).2.2.2.2 _ _) _ (IC_lt (Nat.lt_of_le_of_lt hI.2.1 (by decide)) H0)).trans hr2.symm)) c9)
      refine g_goto C 1332 dL_law_1329 (by decide) ?_
      refine g_swap ?_
      refine g_mask [true, true, true, true, true, false, false] rfl ?_
      exact K _ _ _ _ _ _ _ _ _ _ _ _ _ _ _ _ _ _ _ _ _ _ _ _ _ _ _ _ _ _ _ _ _ _ _ _ _ _ _ hI
    · exact absurd (H0) (M1)
  · skip
    refine g_istore C [some (.ref bb), some (.ref (d 0)), some (.ref (q 0)), some (.ref o), some (.int (nI i)), some (.int 1), none] dL_law_1287 (by decide) rfl rfl ?_
    refine g_aload_n C dL_law_1289 rfl ?_
    refine g_aload_n C dL_law_1290 rfl ?_
    refine g_iload C dL_law_1291 rfl ?_
    refine g_iconst C 1 dL_law_1293 (by decide +kernel) ?_
    refine g_iadd C (nI (i + 1)) dL_law_1294 (nI_add i 1) ?_
    refine g_sld C hS (i + 1) rfl (by omega) dL_law_1295 ?_
    refine g_swap ?_
    refine g_callVi C (wO cJ o ot ++ ((wCo cI a b d mg pt bd tk ho ri lo fv hd lf la ++ wSo cI cW a b r2 hp rl cn be bw wo) ++ wL cI cZ cG a r nc nw cx cy ch rm on wx wy dm sv mu qq)) (wM cI cZ q nc nw cx cy ch rm on wx wy dm sv fv hd lf la mg pt bd tk ho ri lo us gv bs ld qs mS mD th) [.int (xs (i + 1))] (t_X3_bestCell hI.1 hI.2.1 hI.ihr hI.ihg (hI.iGQ on) (NXT_all nc nw hI.1)) rfl rfl (cwV 1 C.ts gL_law_X3_bestCell rfl rfl rfl (by decide +kernel) ⟨Nat.le_of_ble_eq_true rfl, Nat.le_of_ble_eq_true rfl⟩) rfl rfl rfl (Nat.le_of_ble_eq_true rfl) dL_law_1296 (rm_0 hkn) (fun r2v w2 hp2 => ?_)
    obtain ⟨M0, gw, L9, Qs, hr2, rfl⟩ | ⟨M1, rfl⟩ := hp2
    · exact absurd (M0) (H1)
    · skip
      refine g_istore C [some (.ref bb), some (.ref (d 0)), some (.ref (q 0)), some (.ref o), some (.int (nI i)), some (.int 1), some (.int r2v)] dL_law_1299 (by decide) rfl rfl ?_
      refine g_aload_n C dL_law_1301 rfl ?_
      refine g_callVi C (wO cJ o ot ++ ((wCo cI a b d mg pt bd tk ho ri lo fv hd lf la ++ wSo cI cW a b r2 hp rl cn be bw wo) ++ wL cI cZ cG a r nc nw cx cy ch rm on wx wy dm sv mu qq)) (wM cI cZ q nc nw cx cy ch rm on wx wy dm sv fv hd lf la mg pt bd tk ho ri lo us gv bs ld qs mS mD 1) [] t_X3_thrown rfl rfl (cwV 0 C.ts gL_law_X3_thrown rfl rfl rfl (by decide +kernel) ⟨Nat.le_of_ble_eq_true rfl, Nat.le_of_ble_eq_true rfl⟩) rfl rfl rfl (Nat.le_of_ble_eq_true rfl) dL_law_1302 (rm_0 hkn) (fun r3v w3 hp3 => ?_)
      obtain ⟨rfl, rfl⟩ := hp3
      refine g_iload C dL_law_1305 rfl ?_
      refine g_icmp_eq C 1312 dL_law_1307 (by decide) (fun _ => ?_) (fun c9 => absurd rfl c9)
      refine g_iload C dL_law_1312 rfl ?_
      refine g_if_ne C 1329 dL_law_1314 (by decide) (fun _ => ?_) (fun c9 => absurd c9 (by decide))
      refine g_goto C 1332 dL_law_1329 (by decide) ?_
      refine g_swap ?_
      refine g_mask [true, true, true, true, true, false, false] rfl ?_
      exact K _ _ _ _ _ _ _ _ _ _ _ _ _ _ _ _ _ _ _ _ _ _ _ _ _ _ _ _ _ _ _ _ _ _ _ _ _ _ _ hI
set_option maxHeartbeats 1000000 in
set_option maxRecDepth 100000 in
theorem law_ticks (C : CX p s m args meth c cL_law RL wsL_law D (T5 cI cZ cJ cG cW) A 7) (hl0 : l.stackTraces = false) (hX : XX A s s.heap) (hS : SCR A s bb L xs) (hi : i + 4 < L) (hkn : k + 10 ≤ 669564 ∧ n + 60 ≤ 7087412)
    (K : LK p l e s m args below meth c D A Q cI cZ cJ cG cW a b d q r r2 o (k + 10) (n + 60) [some (.ref bb), some (.ref (d 0)), some (.ref (q 0)), some (.ref o), some (.int (nI i)), none, none] 1332) : LK p l e s m args below meth c D A Q cI cZ cJ cG cW a b d q r r2 o k n [some (.ref bb), some (.ref (d 0)), some (.ref (q 0)), some (.ref o), some (.int (nI i)), none, none] 743 := by
  intro nc nw cx cy ch rm on wx wy dm sv fv hd lf la mg pt bd tk ho ri lo hp rl cn be bw wo mu qq ot us gv bs ld qs mS mD th hI
  refine g_aload_n C dL_law_743 rfl ?_
  refine g_widen (k' := k + 10) (n' := n + 60) (by omega) (by omega) ?_
  refine g_w (List.append_assoc _ _ _).symm ?_
  refine g_callVi C ((wM cI cZ q nc nw cx cy ch rm on wx wy dm sv fv hd lf la mg pt bd tk ho ri lo us gv bs ld qs mS mD th) ++ (wO cJ o ot)) ((wCo cI a b d mg pt bd tk ho ri lo fv hd lf la ++ wSo cI cW a b r2 hp rl cn be bw wo) ++ wL cI cZ cG a r nc nw cx cy ch rm on wx wy dm sv mu qq) [] (t_X2_ticks) rfl rfl (cwV 0 C.ts gL_law_X2_ticks rfl rfl rfl (by decide +kernel) ⟨Nat.le_of_ble_eq_true rfl, Nat.le_of_ble_eq_true rfl⟩) rfl rfl rfl (Nat.le_of_ble_eq_true rfl) dL_law_744 (rm_0 hkn) (fun r1v w1 hp1 => ?_)
  obtain ⟨hr1, rfl⟩ := hp1
  refine g_w (List.append_assoc _ _ _) ?_
  refine g_aload_n C dL_law_747 rfl ?_
  refine g_swap ?_
  refine g_callVi C (wO cJ o ot ++ ((wCo cI a b d mg pt bd tk ho ri lo fv hd lf la ++ wSo cI cW a b r2 hp rl cn be bw wo) ++ wL cI cZ cG a r nc nw cx cy ch rm on wx wy dm sv mu qq)) (wM cI cZ q nc nw cx cy ch rm on wx wy dm sv fv hd lf la mg pt bd tk ho ri lo us gv bs ld qs mS mD th) [] (t_X3_ticks) rfl rfl (cwV 0 C.ts gL_law_X3_ticks rfl rfl rfl (by decide +kernel) ⟨Nat.le_of_ble_eq_true rfl, Nat.le_of_ble_eq_true rfl⟩) rfl rfl rfl (Nat.le_of_ble_eq_true rfl) dL_law_748 (rm_0 hkn) (fun r2v w2 hp2 => ?_)
  obtain ⟨hr2, rfl⟩ := hp2
  refine g_icmp_eq C 1332 dL_law_751 (by decide) (fun _ => ?_) (fun c9 => absurd (hr1.trans hr2.symm) c9)
  refine g_swap ?_
  refine g_mask [true, true, true, true, true, false, false] rfl ?_
  exact K _ _ _ _ _ _ _ _ _ _ _ _ _ _ _ _ _ _ _ _ _ _ _ _ _ _ _ _ _ _ _ _ _ _ _ _ _ _ _ hI
set_option maxHeartbeats 1000000 in
set_option maxRecDepth 100000 in
theorem law_cells (C : CX p s m args meth c cL_law RL wsL_law D (T5 cI cZ cJ cG cW) A 7) (hl0 : l.stackTraces = false) (hX : XX A s s.heap) (hS : SCR A s bb L xs) (hi : i + 4 < L) (hkn : k + 10 ≤ 669564 ∧ n + 60 ≤ 7087412)
    (K : LK p l e s m args below meth c D A Q cI cZ cJ cG cW a b d q r r2 o (k + 10) (n + 60) [some (.ref bb), some (.ref (d 0)), some (.ref (q 0)), some (.ref o), some (.int (nI i)), none, none] 1332) : LK p l e s m args below meth c D A Q cI cZ cJ cG cW a b d q r r2 o k n [some (.ref bb), some (.ref (d 0)), some (.ref (q 0)), some (.ref o), some (.int (nI i)), none, none] 756 := by
  intro nc nw cx cy ch rm on wx wy dm sv fv hd lf la mg pt bd tk ho ri lo hp rl cn be bw wo mu qq ot us gv bs ld qs mS mD th hI
  refine g_aload_n C dL_law_756 rfl ?_
  refine g_widen (k' := k + 10) (n' := n + 60) (by omega) (by omega) ?_
  refine g_w (List.append_assoc _ _ _).symm ?_
  refine g_callVi C ((wM cI cZ q nc nw cx cy ch rm on wx wy dm sv fv hd lf la mg pt bd tk ho ri lo us gv bs ld qs mS mD th) ++ (wO cJ o ot)) ((wCo cI a b d mg pt bd tk ho ri lo fv hd lf la ++ wSo cI cW a b r2 hp rl cn be bw wo) ++ wL cI cZ cG a r nc nw cx cy ch rm on wx wy dm sv mu qq) [] (t_X2_cells) rfl rfl (cwV 0 C.ts gL_law_X2_cells rfl rfl rfl (by decide +kernel) ⟨Nat.le_of_ble_eq_true rfl, Nat.le_of_ble_eq_true rfl⟩) rfl rfl rfl (Nat.le_of_ble_eq_true rfl) dL_law_757 (rm_0 hkn) (fun r1v w1 hp1 => ?_)
  obtain ⟨hr1, rfl⟩ := hp1
  refine g_w (List.append_assoc _ _ _) ?_
  refine g_aload_n C dL_law_760 rfl ?_
  refine g_swap ?_
  refine g_callVi C (wO cJ o ot ++ ((wCo cI a b d mg pt bd tk ho ri lo fv hd lf la ++ wSo cI cW a b r2 hp rl cn be bw wo) ++ wL cI cZ cG a r nc nw cx cy ch rm on wx wy dm sv mu qq)) (wM cI cZ q nc nw cx cy ch rm on wx wy dm sv fv hd lf la mg pt bd tk ho ri lo us gv bs ld qs mS mD th) [] (t_X3_cells) rfl rfl (cwV 0 C.ts gL_law_X3_cells rfl rfl rfl (by decide +kernel) ⟨Nat.le_of_ble_eq_true rfl, Nat.le_of_ble_eq_true rfl⟩) rfl rfl rfl (Nat.le_of_ble_eq_true rfl) dL_law_761 (rm_0 hkn) (fun r2v w2 hp2 => ?_)
  obtain ⟨hr2, rfl⟩ := hp2
  refine g_icmp_eq C 1332 dL_law_764 (by decide) (fun _ => ?_) (fun c9 => absurd (hr1.trans hr2.symm) c9)
  refine g_swap ?_
  refine g_mask [true, true, true, true, true, false, false] rfl ?_
  exact K _ _ _ _ _ _ _ _ _ _ _ _ _ _ _ _ _ _ _ _ _ _ _ _ _ _ _ _ _ _ _ _ _ _ _ _ _ _ _ hI
set_option maxHeartbeats 1000000 in
set_option maxRecDepth 100000 in
theorem law_walkers (C : CX p s m args meth c cL_law RL wsL_law D (T5 cI cZ cJ cG cW) A 7) (hl0 : l.stackTraces = false) (hX : XX A s s.heap) (hS : SCR A s bb L xs) (hi : i + 4 < L) (hkn : k + 10 ≤ 669564 ∧ n + 60 ≤ 7087412)
    (K : LK p l e s m args below meth c D A Q cI cZ cJ cG cW a b d q r r2 o (k + 10) (n + 60) [some (.ref bb), some (.ref (d 0)), some (.ref (q 0)), some (.ref o), some (.int (nI i)), none, none] 1332) : LK p l e s m args below meth c D A Q cI cZ cJ cG cW a b d q r r2 o k n [some (.ref bb), some (.ref (d 0)), some (.ref (q 0)), some (.ref o), some (.int (nI i)), none, none] 769 := by
  intro nc nw cx cy ch rm on wx wy dm sv fv hd lf la mg pt bd tk ho ri lo hp rl cn be bw wo mu qq ot us gv bs ld qs mS mD th hI
  refine g_aload_n C dL_law_769 rfl ?_
  refine g_widen (k' := k + 10) (n' := n + 60) (by omega) (by omega) ?_
  refine g_w (List.append_assoc _ _ _).symm ?_
  refine g_callVi C ((wM cI cZ q nc nw cx cy ch rm on wx wy dm sv fv hd lf la mg pt bd tk ho ri lo us gv bs ld qs mS mD th) ++ (wO cJ o ot)) ((wCo cI a b d mg pt bd tk ho ri lo fv hd lf la ++ wSo cI cW a b r2 hp rl cn be bw wo) ++ wL cI cZ cG a r nc nw cx cy ch rm on wx wy dm sv mu qq) [] (t_X2_walkers) rfl rfl (cwV 0 C.ts gL_law_X2_walkers rfl rfl rfl (by decide +kernel) ⟨Nat.le_of_ble_eq_true rfl, Nat.le_of_ble_eq_true rfl⟩) rfl rfl rfl (Nat.le_of_ble_eq_true rfl) dL_law_770 (rm_0 hkn) (fun r1v w1 hp1 => ?_)
  obtain ⟨hr1, rfl⟩ := hp1
  refine g_w (List.append_assoc _ _ _) ?_
  refine g_aload_n C dL_law_773 rfl ?_
  refine g_swap ?_
  refine g_callVi C (wO cJ o ot ++ ((wCo cI a b d mg pt bd tk ho ri lo fv hd lf la ++ wSo cI cW a b r2 hp rl cn be bw wo) ++ wL cI cZ cG a r nc nw cx cy ch rm on wx wy dm sv mu qq)) (wM cI cZ q nc nw cx cy ch rm on wx wy dm sv fv hd lf la mg pt bd tk ho ri lo us gv bs ld qs mS mD th) [] (t_X3_walkers) rfl rfl (cwV 0 C.ts gL_law_X3_walkers rfl rfl rfl (by decide +kernel) ⟨Nat.le_of_ble_eq_true rfl, Nat.le_of_ble_eq_true rfl⟩) rfl rfl rfl (Nat.le_of_ble_eq_true rfl) dL_law_774 (rm_0 hkn) (fun r2v w2 hp2 => ?_)
  obtain ⟨hr2, rfl⟩ := hp2
  refine g_icmp_eq C 1332 dL_law_777 (by decide) (fun _ => ?_) (fun c9 => absurd (hr1.trans hr2.symm) c9)
  refine g_swap ?_
  refine g_mask [true, true, true, true, true, false, false] rfl ?_
  exact K _ _ _ _ _ _ _ _ _ _ _ _ _ _ _ _ _ _ _ _ _ _ _ _ _ _ _ _ _ _ _ _ _ _ _ _ _ _ _ hI
set_option maxHeartbeats 1000000 in
set_option maxRecDepth 100000 in
theorem law_handovers (C : CX p s m args meth c cL_law RL wsL_law D (T5 cI cZ cJ cG cW) A 7) (hl0 : l.stackTraces = false) (hX : XX A s s.heap) (hS : SCR A s bb L xs) (hi : i + 4 < L) (hkn : k + 10 ≤ 669564 ∧ n + 60 ≤ 7087412)
    (K : LK p l e s m args below meth c D A Q cI cZ cJ cG cW a b d q r r2 o (k + 10) (n + 60) [some (.ref bb), some (.ref (d 0)), some (.ref (q 0)), some (.ref o), some (.int (nI i)), none, none] 1332) : LK p l e s m args below meth c D A Q cI cZ cJ cG cW a b d q r r2 o k n [some (.ref bb), some (.ref (d 0)), some (.ref (q 0)), some (.ref o), some (.int (nI i)), none, none] 1198 := by
  intro nc nw cx cy ch rm on wx wy dm sv fv hd lf la mg pt bd tk ho ri lo hp rl cn be bw wo mu qq ot us gv bs ld qs mS mD th hI
  refine g_aload_n C dL_law_1198 rfl ?_
  refine g_widen (k' := k + 10) (n' := n + 60) (by omega) (by omega) ?_
  refine g_w (List.append_assoc _ _ _).symm ?_
  refine g_callVi C ((wM cI cZ q nc nw cx cy ch rm on wx wy dm sv fv hd lf la mg pt bd tk ho ri lo us gv bs ld qs mS mD th) ++ (wO cJ o ot)) ((wCo cI a b d mg pt bd tk ho ri lo fv hd lf la ++ wSo cI cW a b r2 hp rl cn be bw wo) ++ wL cI cZ cG a r nc nw cx cy ch rm on wx wy dm sv mu qq) [] (t_X2_handovers) rfl rfl (cwV 0 C.ts gL_law_X2_handovers rfl rfl rfl (by decide +kernel) ⟨Nat.le_of_ble_eq_true rfl, Nat.le_of_ble_eq_true rfl⟩) rfl rfl rfl (Nat.le_of_ble_eq_true rfl) dL_law_1199 (rm_0 hkn) (fun r1v w1 hp1 => ?_)
  obtain ⟨hr1, rfl⟩ := hp1
  refine g_w (List.append_assoc _ _ _) ?_
  refine g_aload_n C dL_law_1202 rfl ?_
  refine g_swap ?_
  refine g_callVi C (wO cJ o ot ++ ((wCo cI a b d mg pt bd tk ho ri lo fv hd lf la ++ wSo cI cW a b r2 hp rl cn be bw wo) ++ wL cI cZ cG a r nc nw cx cy ch rm on wx wy dm sv mu qq)) (wM cI cZ q nc nw cx cy ch rm on wx wy dm sv fv hd lf la mg pt bd tk ho ri lo us gv bs ld qs mS mD th) [] (t_X3_handovers) rfl rfl (cwV 0 C.ts gL_law_X3_handovers rfl rfl rfl (by decide +kernel) ⟨Nat.le_of_ble_eq_true rfl, Nat.le_of_ble_eq_true rfl⟩) rfl rfl rfl (Nat.le_of_ble_eq_true rfl) dL_law_1203 (rm_0 hkn) (fun r2v w2 hp2 => ?_)
  obtain ⟨hr2, rfl⟩ := hp2
  refine g_icmp_eq C 1332 dL_law_1206 (by decide) (fun _ => ?_) (fun c9 => absurd (hr1.trans hr2.symm) c9)
  refine g_swap ?_
  refine g_mask [true, true, true, true, true, false, false] rfl ?_
  exact K _ _ _ _ _ _ _ _ _ _ _ _ _ _ _ _ _ _ _ _ _ _ _ _ _ _ _ _ _ _ _ _ _ _ _ _ _ _ _ hI
set_option maxHeartbeats 1000000 in
set_option maxRecDepth 100000 in
theorem law_rings (C : CX p s m args meth c cL_law RL wsL_law D (T5 cI cZ cJ cG cW) A 7) (hl0 : l.stackTraces = false) (hX : XX A s s.heap) (hS : SCR A s bb L xs) (hi : i + 4 < L) (hkn : k + 10 ≤ 669564 ∧ n + 60 ≤ 7087412)
    (K : LK p l e s m args below meth c D A Q cI cZ cJ cG cW a b d q r r2 o (k + 10) (n + 60) [some (.ref bb), some (.ref (d 0)), some (.ref (q 0)), some (.ref o), some (.int (nI i)), none, none] 1332) : LK p l e s m args below meth c D A Q cI cZ cJ cG cW a b d q r r2 o k n [some (.ref bb), some (.ref (d 0)), some (.ref (q 0)), some (.ref o), some (.int (nI i)), none, none] 1211 := by
  intro nc nw cx cy ch rm on wx wy dm sv fv hd lf la mg pt bd tk ho ri lo hp rl cn be bw wo mu qq ot us gv bs ld qs mS mD th hI
  refine g_aload_n C dL_law_1211 rfl ?_
  refine g_widen (k' := k + 10) (n' := n + 60) (by omega) (by omega) ?_
  refine g_w (List.append_assoc _ _ _).symm ?_
  refine g_callVi C ((wM cI cZ q nc nw cx cy ch rm on wx wy dm sv fv hd lf la mg pt bd tk ho ri lo us gv bs ld qs mS mD th) ++ (wO cJ o ot)) ((wCo cI a b d mg pt bd tk ho ri lo fv hd lf la ++ wSo cI cW a b r2 hp rl cn be bw wo) ++ wL cI cZ cG a r nc nw cx cy ch rm on wx wy dm sv mu qq) [] (t_X2_rings) rfl rfl (cwV 0 C.ts gL_law_X2_rings rfl rfl rfl (by decide +kernel) ⟨Nat.le_of_ble_eq_true rfl, Nat.le_of_ble_eq_true rfl⟩) rfl rfl rfl (Nat.le_of_ble_eq_true rfl) dL_law_1212 (rm_0 hkn) (fun r1v w1 hp1 => ?_)
  obtain ⟨hr1, rfl⟩ := hp1
  refine g_w (List.append_assoc _ _ _) ?_
  refine g_aload_n C dL_law_1215 rfl ?_
  refine g_swap ?_
  refine g_callVi C (wO cJ o ot ++ ((wCo cI a b d mg pt bd tk ho ri lo fv hd lf la ++ wSo cI cW a b r2 hp rl cn be bw wo) ++ wL cI cZ cG a r nc nw cx cy ch rm on wx wy dm sv mu qq)) (wM cI cZ q nc nw cx cy ch rm on wx wy dm sv fv hd lf la mg pt bd tk ho ri lo us gv bs ld qs mS mD th) [] (t_X3_rings) rfl rfl (cwV 0 C.ts gL_law_X3_rings rfl rfl rfl (by decide +kernel) ⟨Nat.le_of_ble_eq_true rfl, Nat.le_of_ble_eq_true rfl⟩) rfl rfl rfl (Nat.le_of_ble_eq_true rfl) dL_law_1216 (rm_0 hkn) (fun r2v w2 hp2 => ?_)
  obtain ⟨hr2, rfl⟩ := hp2
  refine g_icmp_eq C 1332 dL_law_1219 (by decide) (fun _ => ?_) (fun c9 => absurd (hr1.trans hr2.symm) c9)
  refine g_swap ?_
  refine g_mask [true, true, true, true, true, false, false] rfl ?_
  exact K _ _ _ _ _ _ _ _ _ _ _ _ _ _ _ _ _ _ _ _ _ _ _ _ _ _ _ _ _ _ _ _ _ _ _ _ _ _ _ hI
set_option maxHeartbeats 1000000 in
set_option maxRecDepth 100000 in
theorem law_losses (C : CX p s m args meth c cL_law RL wsL_law D (T5 cI cZ cJ cG cW) A 7) (hl0 : l.stackTraces = false) (hX : XX A s s.heap) (hS : SCR A s bb L xs) (hi : i + 4 < L) (hkn : k + 10 ≤ 669564 ∧ n + 60 ≤ 7087412)
    (K : LK p l e s m args below meth c D A Q cI cZ cJ cG cW a b d q r r2 o (k + 10) (n + 60) [some (.ref bb), some (.ref (d 0)), some (.ref (q 0)), some (.ref o), some (.int (nI i)), none, none] 1332) : LK p l e s m args below meth c D A Q cI cZ cJ cG cW a b d q r r2 o k n [some (.ref bb), some (.ref (d 0)), some (.ref (q 0)), some (.ref o), some (.int (nI i)), none, none] 1224 := by
  intro nc nw cx cy ch rm on wx wy dm sv fv hd lf la mg pt bd tk ho ri lo hp rl cn be bw wo mu qq ot us gv bs ld qs mS mD th hI
  refine g_aload_n C dL_law_1224 rfl ?_
  refine g_widen (k' := k + 10) (n' := n + 60) (by omega) (by omega) ?_
  refine g_w (List.append_assoc _ _ _).symm ?_
  refine g_callVi C ((wM cI cZ q nc nw cx cy ch rm on wx wy dm sv fv hd lf la mg pt bd tk ho ri lo us gv bs ld qs mS mD th) ++ (wO cJ o ot)) ((wCo cI a b d mg pt bd tk ho ri lo fv hd lf la ++ wSo cI cW a b r2 hp rl cn be bw wo) ++ wL cI cZ cG a r nc nw cx cy ch rm on wx wy dm sv mu qq) [] (t_X2_losses) rfl rfl (cwV 0 C.ts gL_law_X2_losses rfl rfl rfl (by decide +kernel) ⟨Nat.le_of_ble_eq_true rfl, Nat.le_of_ble_eq_true rfl⟩) rfl rfl rfl (Nat.le_of_ble_eq_true rfl) dL_law_1225 (rm_0 hkn) (fun r1v w1 hp1 => ?_)
  obtain ⟨hr1, rfl⟩ := hp1
  refine g_w (List.append_assoc _ _ _) ?_
  refine g_aload_n C dL_law_1228 rfl ?_
  refine g_swap ?_
  refine g_callVi C (wO cJ o ot ++ ((wCo cI a b d mg pt bd tk ho ri lo fv hd lf la ++ wSo cI cW a b r2 hp rl cn be bw wo) ++ wL cI cZ cG a r nc nw cx cy ch rm on wx wy dm sv mu qq)) (wM cI cZ q nc nw cx cy ch rm on wx wy dm sv fv hd lf la mg pt bd tk ho ri lo us gv bs ld qs mS mD th) [] (t_X3_losses) rfl rfl (cwV 0 C.ts gL_law_X3_losses rfl rfl rfl (by decide +kernel) ⟨Nat.le_of_ble_eq_true rfl, Nat.le_of_ble_eq_true rfl⟩) rfl rfl rfl (Nat.le_of_ble_eq_true rfl) dL_law_1229 (rm_0 hkn) (fun r2v w2 hp2 => ?_)
  obtain ⟨hr2, rfl⟩ := hp2
  refine g_icmp_eq C 1332 dL_law_1232 (by decide) (fun _ => ?_) (fun c9 => absurd (hr1.trans hr2.symm) c9)
  refine g_swap ?_
  refine g_mask [true, true, true, true, true, false, false] rfl ?_
  exact K _ _ _ _ _ _ _ _ _ _ _ _ _ _ _ _ _ _ _ _ _ _ _ _ _ _ _ _ _ _ _ _ _ _ _ _ _ _ _ hI
set_option maxHeartbeats 1000000 in
set_option maxRecDepth 100000 in
theorem law_unserved (C : CX p s m args meth c cL_law RL wsL_law D (T5 cI cZ cJ cG cW) A 7) (hl0 : l.stackTraces = false) (hX : XX A s s.heap) (hS : SCR A s bb L xs) (hi : i + 4 < L) (hkn : k + 10 ≤ 669564 ∧ n + 60 ≤ 7087412)
    (K : LK p l e s m args below meth c D A Q cI cZ cJ cG cW a b d q r r2 o (k + 10) (n + 60) [some (.ref bb), some (.ref (d 0)), some (.ref (q 0)), some (.ref o), some (.int (nI i)), none, none] 1332) : LK p l e s m args below meth c D A Q cI cZ cJ cG cW a b d q r r2 o k n [some (.ref bb), some (.ref (d 0)), some (.ref (q 0)), some (.ref o), some (.int (nI i)), none, none] 1237 := by
  intro nc nw cx cy ch rm on wx wy dm sv fv hd lf la mg pt bd tk ho ri lo hp rl cn be bw wo mu qq ot us gv bs ld qs mS mD th hI
  refine g_aload_n C dL_law_1237 rfl ?_
  refine g_widen (k' := k + 10) (n' := n + 60) (by omega) (by omega) ?_
  refine g_w (List.append_assoc _ _ _).symm ?_
  refine g_callVi C ((wM cI cZ q nc nw cx cy ch rm on wx wy dm sv fv hd lf la mg pt bd tk ho ri lo us gv bs ld qs mS mD th) ++ (wO cJ o ot)) ((wCo cI a b d mg pt bd tk ho ri lo fv hd lf la ++ wSo cI cW a b r2 hp rl cn be bw wo) ++ wL cI cZ cG a r nc nw cx cy ch rm on wx wy dm sv mu qq) [] (t_X2_unserved hI.2.1) rfl rfl (cwV 0 C.ts gL_law_X2_unserved rfl rfl rfl (by decide +kernel) ⟨Nat.le_of_ble_eq_true rfl, Nat.le_of_ble_eq_true rfl⟩) rfl rfl rfl (Nat.le_of_ble_eq_true rfl) dL_law_1238 (rm_0 hkn) (fun r1v w1 hp1 => ?_)
  obtain ⟨hr1, rfl⟩ := hp1
  refine g_w (List.append_assoc _ _ _) ?_
  refine g_aload_n C dL_law_1241 rfl ?_
  refine g_swap ?_
  refine g_callVi C (wO cJ o ot ++ ((wCo cI a b d mg pt bd tk ho ri lo fv hd lf la ++ wSo cI cW a b r2 hp rl cn be bw wo) ++ wL cI cZ cG a r nc nw cx cy ch rm on wx wy dm sv mu qq)) (wM cI cZ q nc nw cx cy ch rm on wx wy dm sv fv hd lf la mg pt bd tk ho ri lo us gv bs ld qs mS mD th) [] (t_X3_unserved hI.2.1) rfl rfl (cwV 0 C.ts gL_law_X3_unserved rfl rfl rfl (by decide +kernel) ⟨Nat.le_of_ble_eq_true rfl, Nat.le_of_ble_eq_true rfl⟩) rfl rfl rfl (Nat.le_of_ble_eq_true rfl) dL_law_1242 (rm_0 hkn) (fun r2v w2 hp2 => ?_)
  obtain ⟨hr2, rfl⟩ := hp2
  refine g_icmp_eq C 1332 dL_law_1245 (by decide) (fun _ => ?_) (fun c9 => absurd (hr1.trans hr2.symm) c9)
  refine g_swap ?_
  refine g_mask [true, true, true, true, true, false, false] rfl ?_
  exact K _ _ _ _ _ _ _ _ _ _ _ _ _ _ _ _ _ _ _ _ _ _ _ _ _ _ _ _ _ _ _ _ _ _ _ _ _ _ _ hI
set_option maxHeartbeats 1000000 in
set_option maxRecDepth 100000 in
theorem law_mostServed (C : CX p s m args meth c cL_law RL wsL_law D (T5 cI cZ cJ cG cW) A 7) (hl0 : l.stackTraces = false) (hX : XX A s s.heap) (hS : SCR A s bb L xs) (hi : i + 4 < L) (hkn : k + 10 ≤ 669564 ∧ n + 60 ≤ 7087412)
    (K : LK p l e s m args below meth c D A Q cI cZ cJ cG cW a b d q r r2 o (k + 10) (n + 60) [some (.ref bb), some (.ref (d 0)), some (.ref (q 0)), some (.ref o), some (.int (nI i)), none, none] 1332) : LK p l e s m args below meth c D A Q cI cZ cJ cG cW a b d q r r2 o k n [some (.ref bb), some (.ref (d 0)), some (.ref (q 0)), some (.ref o), some (.int (nI i)), none, none] 1250 := by
  intro nc nw cx cy ch rm on wx wy dm sv fv hd lf la mg pt bd tk ho ri lo hp rl cn be bw wo mu qq ot us gv bs ld qs mS mD th hI
  refine g_aload_n C dL_law_1250 rfl ?_
  refine g_widen (k' := k + 10) (n' := n + 60) (by omega) (by omega) ?_
  refine g_w (List.append_assoc _ _ _).symm ?_
  refine g_callVi C ((wM cI cZ q nc nw cx cy ch rm on wx wy dm sv fv hd lf la mg pt bd tk ho ri lo us gv bs ld qs mS mD th) ++ (wO cJ o ot)) ((wCo cI a b d mg pt bd tk ho ri lo fv hd lf la ++ wSo cI cW a b r2 hp rl cn be bw wo) ++ wL cI cZ cG a r nc nw cx cy ch rm on wx wy dm sv mu qq) [] (t_X2_mostServed hI.1 hI.2.1 hI.ihr hI.ihg (hI.iGQ on sv mu)) rfl rfl (cwV 0 C.ts gL_law_X2_mostServed rfl rfl rfl (by decide +kernel) ⟨Nat.le_of_ble_eq_true rfl, Nat.le_of_ble_eq_true rfl⟩) rfl rfl rfl (Nat.le_of_ble_eq_true rfl) dL_law_1251 (rm_0 hkn) (fun r1v w1 hp1 => ?_)
  obtain ⟨z, P, Y, hr1, rfl, hz⟩ := hp1
  refine g_w (List.append_assoc _ _ _) ?_
  refine g_aload_n C dL_law_1254 rfl ?_
  refine g_swap ?_
  refine g_callVi C (wO cJ o ot ++ ((wCo cI a b d mg pt bd tk ho ri lo fv hd lf la ++ wSo cI cW a b r2 P z.1 z.2.1 z.2.2.1 z.2.2.2 Y) ++ wL cI cZ cG a r nc nw cx cy ch rm on wx wy dm sv (fil nc (fus rm sv dm nw) mu) (fil2 nw nc (fun w c => fqu cx cy ch on wx wy (fil nc (fus rm sv dm nw) mu) nc w c) qq))) (wM cI cZ q nc nw cx cy ch rm on wx wy dm sv fv hd lf la mg pt bd tk ho ri lo us gv bs ld qs mS mD th) [] (t_X3_mostServed hI.1 hI.2.1 hI.ihr hI.ihg (hI.iGQ on) (NXT_all nc nw hI.1)) rfl rfl (cwV 0 C.ts gL_law_X3_mostServed rfl rfl rfl (by decide +kernel) ⟨Nat.le_of_ble_eq_true rfl, Nat.le_of_ble_eq_true rfl⟩) rfl rfl rfl (Nat.le_of_ble_eq_true rfl) dL_law_1255 (rm_0 hkn) (fun r2v w2 hp2 => ?_)
  obtain ⟨gw, L9, Qs, hr2, rfl⟩ := hp2
  refine g_icmp_eq C 1332 dL_law_1258 (by decide) (fun _ => ?_) (fun c9 => absurd (hr1.trans ((ag_served (hI.QB on us) (GW_opt (SH_S (hI.QB on us)) QF_eq hz) (RI_all hI.2.1 (hI.QB on us).2.2.2.2 _ _)).trans hr2.symm)) c9)
  refine g_swap ?_
  refine g_mask [true, true, true, true, true, false, false] rfl ?_
  exact K _ _ _ _ _ _ _ _ _ _ _ _ _ _ _ _ _ _ _ _ _ _ _ _ _ _ _ _ _ _ _ _ _ _ _ _ _ _ _ hI
set_option maxHeartbeats 1000000 in
set_option maxRecDepth 100000 in
theorem law_mostDemand (C : CX p s m args meth c cL_law RL wsL_law D (T5 cI cZ cJ cG cW) A 7) (hl0 : l.stackTraces = false) (hX : XX A s s.heap) (hS : SCR A s bb L xs) (hi : i + 4 < L) (hkn : k + 10 ≤ 669564 ∧ n + 60 ≤ 7087412)
    (K : LK p l e s m args below meth c D A Q cI cZ cJ cG cW a b d q r r2 o (k + 10) (n + 60) [some (.ref bb), some (.ref (d 0)), some (.ref (q 0)), some (.ref o), some (.int (nI i)), none, none] 1332) : LK p l e s m args below meth c D A Q cI cZ cJ cG cW a b d q r r2 o k n [some (.ref bb), some (.ref (d 0)), some (.ref (q 0)), some (.ref o), some (.int (nI i)), none, none] 1263 := by
  intro nc nw cx cy ch rm on wx wy dm sv fv hd lf la mg pt bd tk ho ri lo hp rl cn be bw wo mu qq ot us gv bs ld qs mS mD th hI
  refine g_aload_n C dL_law_1263 rfl ?_
  refine g_widen (k' := k + 10) (n' := n + 60) (by omega) (by omega) ?_
  refine g_w (List.append_assoc _ _ _).symm ?_
  refine g_callVi C ((wM cI cZ q nc nw cx cy ch rm on wx wy dm sv fv hd lf la mg pt bd tk ho ri lo us gv bs ld qs mS mD th) ++ (wO cJ o ot)) ((wCo cI a b d mg pt bd tk ho ri lo fv hd lf la ++ wSo cI cW a b r2 hp rl cn be bw wo) ++ wL cI cZ cG a r nc nw cx cy ch rm on wx wy dm sv mu qq) [] (t_X2_mostDemand hI.1 hI.2.1 hI.ihr hI.ihg (hI.iGQ on sv mu)) rfl rfl (cwV 0 C.ts gL_law_X2_mostDemand rfl rfl rfl (by decide +kernel) ⟨Nat.le_of_ble_eq_true rfl, Nat.le_of_ble_eq_true rfl⟩) rfl rfl rfl (Nat.le_of_ble_eq_true rfl) dL_law_1264 (rm_0 hkn) (fun r1v w1 hp1 => ?_)
  obtain ⟨z, P, Y, hr1, rfl, hz⟩ := hp1
  refine g_w (List.append_assoc _ _ _) ?_
  refine g_aload_n C dL_law_1267 rfl ?_
  refine g_swap ?_
  refine g_callVi C (wO cJ o ot ++ ((wCo cI a b d mg pt bd tk ho ri lo fv hd lf la ++ wSo cI cW a b r2 P z.1 z.2.1 z.2.2.1 z.2.2.2 Y) ++ wL cI cZ cG a r nc nw cx cy ch rm on wx wy dm sv (fil nc (fus rm sv dm nw) mu) (fil2 nw nc (fun w c => fqu cx cy ch on wx wy (fil nc (fus rm sv dm nw) mu) nc w c) qq))) (wM cI cZ q nc nw cx cy ch rm on wx wy dm sv fv hd lf la mg pt bd tk ho ri lo us gv bs ld qs mS mD th) [] (t_X3_mostDemand hI.1 hI.2.1 hI.ihr hI.ihg (hI.iGQ on) (NXT_all nc nw hI.1)) rfl rfl (cwV 0 C.ts gL_law_X3_mostDemand rfl rfl rfl (by decide +kernel) ⟨Nat.le_of_ble_eq_true rfl, Nat.le_of_ble_eq_true rfl⟩) rfl rfl rfl (Nat.le_of_ble_eq_true rfl) dL_law_1268 (rm_0 hkn) (fun r2v w2 hp2 => ?_)
  obtain ⟨gw, L9, Qs, hr2, rfl⟩ := hp2
  refine g_icmp_eq C 1332 dL_law_1271 (by decide) (fun _ => ?_) (fun c9 => absurd (hr1.trans ((ag_demand (hI.QB on us) (GW_opt (SH_D (hI.QB on us)) QF_eq hz) (RI_all hI.2.1 (hI.QB on us).2.2.2.2 _ _)).trans hr2.symm)) c9)
  refine g_swap ?_
  refine g_mask [true, true, true, true, true, false, false] rfl ?_
  exact K _ _ _ _ _ _ _ _ _ _ _ _ _ _ _ _ _ _ _ _ _ _ _ _ _ _ _ _ _ _ _ _ _ _ _ _ _ _ _ hI
end LAW
