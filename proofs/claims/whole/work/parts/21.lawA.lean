/-! the law's calls, one after another -/
section LAW
variable {p : Program} {l : Launch} {e : Env} {s : State} {m : MethodId} {args : Array Value} {below : List Frame} {meth : Method} {c : Code} {D : va_G} {A : Nat → Prop} {Q : State → Prop}
variable {cI : ClassId} {cZ : ClassId} {cJ : ClassId} {cG : ClassId} {cW : ClassId} {a : Nat → Nat} {b : Nat → Nat} {d : Nat → Nat} {q : Nat → Nat} {r : Nat → Nat} {r2 : Nat → Nat} {o : Nat} {bb L i k n : Nat} {xs : Nat → Int32}
set_option maxHeartbeats 1000000 in
set_option maxRecDepth 100000 in
theorem law_cell (C : CX p s m args meth c cL_law RL wsL_law D (T5 cI cZ cJ cG cW) A 7) (hl0 : l.stackTraces = false) (hX : XX A s s.heap) (hS : SCR A s bb L xs) (hi : i + 4 < L) (hkn : k + 10 ≤ 669564 ∧ n + 60 ≤ 7087412)
    (K : LK p l e s m args below meth c D A Q cI cZ cJ cG cW a b d q r r2 o (k + 10) (n + 60) [some (.ref bb), some (.ref (d 0)), some (.ref (q 0)), some (.ref o), some (.int (nI i)), none, none] 1332) : LK p l e s m args below meth c D A Q cI cZ cJ cG cW a b d q r r2 o k n [some (.ref bb), some (.ref (d 0)), some (.ref (q 0)), some (.ref o), some (.int (nI i)), none, none] 156 := by
  intro nc nw cx cy ch rm on wx wy dm sv fv hd lf la mg pt bd tk ho ri lo hp rl cn be bw wo mu qq ot us gv bs ld qs mS mD th hI
  refine g_aload_n C dL_law_156 rfl ?_
  refine g_aload_n C dL_law_157 rfl ?_
  refine g_iload C dL_law_158 rfl ?_
  refine g_iconst C 1 dL_law_160 (by decide +kernel) ?_
  refine g_iadd C (nI (i + 1)) dL_law_161 (nI_add i 1) ?_
  refine g_sld C hS (i + 1) rfl (by omega) dL_law_162 ?_
  refine g_aload_n C dL_law_163 rfl ?_
  refine g_iload C dL_law_164 rfl ?_
  refine g_iconst C 2 dL_law_166 (by decide +kernel) ?_
  refine g_iadd C (nI (i + 2)) dL_law_167 (nI_add i 2) ?_
  refine g_sld C hS (i + 2) rfl (by omega) dL_law_168 ?_
  refine g_aload_n C dL_law_169 rfl ?_
  refine g_iload C dL_law_170 rfl ?_
  refine g_iconst C 3 dL_law_172 (by decide +kernel) ?_
  refine g_iadd C (nI (i + 3)) dL_law_173 (nI_add i 3) ?_
  refine g_sld C hS (i + 3) rfl (by omega) dL_law_174 ?_
  refine g_aload_n C dL_law_175 rfl ?_
  refine g_iload C dL_law_176 rfl ?_
  refine g_iconst C 4 dL_law_178 (by decide +kernel) ?_
  refine g_iadd C (nI (i + 4)) dL_law_179 (nI_add i 4) ?_
  refine g_sld C hS (i + 4) rfl (by omega) dL_law_180 ?_
  refine g_aload_n C dL_law_181 rfl ?_
  refine gx_callH C hX (wM cI cZ q nc nw cx cy ch rm on wx wy dm sv fv hd lf la mg pt bd tk ho ri lo us gv bs ld qs mS mD th) (wO cJ o ot ++ ((wCo cI a b d mg pt bd tk ho ri lo fv hd lf la ++ wSo cI cW a b r2 hp rl cn be bw wo) ++ wL cI cZ cG a r nc nw cx cy ch rm on wx wy dm sv mu qq)) [.ref (d 0), .int (xs (i + 1)), .int (xs (i + 2)), .int (xs (i + 3)), .int (xs (i + 4)), .ref o] (t_L_cell hl0 hI.1) (vx_cwSW 6 C.ts gL_law_L_cell rfl rfl rfl (by decide +kernel) ⟨Nat.le_of_ble_eq_true rfl, Nat.le_of_ble_eq_true rfl⟩) rfl rfl rfl (Nat.le_of_ble_eq_true rfl) dL_law_182 (rm_ok hkn (by decide) (by decide)) (fun r1v w1 hp1 => ?_)
  refine g_widen (k' := k + 10) (n' := n + 60) (by omega) (by omega) ?_
  obtain ⟨rfl, H0, rfl⟩ | ⟨rfl, H1, rfl⟩ | ⟨rfl, H2, rfl⟩ := hp1
  · skip
    refine g_istore C [some (.ref bb), some (.ref (d 0)), some (.ref (q 0)), some (.ref o), some (.int (nI i)), some (.int 0), none] dL_law_185 (by decide) rfl rfl ?_
    refine g_aload_n C dL_law_187 rfl ?_
    refine g_aload_n C dL_law_188 rfl ?_
    refine g_iload C dL_law_189 rfl ?_
    refine g_iconst C 1 dL_law_191 (by decide +kernel) ?_
    refine g_iadd C (nI (i + 1)) dL_law_192 (nI_add i 1) ?_
    refine g_sld C hS (i + 1) rfl (by omega) dL_law_193 ?_
    refine g_aload_n C dL_law_194 rfl ?_
    refine g_iload C dL_law_195 rfl ?_
    refine g_iconst C 2 dL_law_197 (by decide +kernel) ?_
    refine g_iadd C (nI (i + 2)) dL_law_198 (nI_add i 2) ?_
    refine g_sld C hS (i + 2) rfl (by omega) dL_law_199 ?_
    refine g_aload_n C dL_law_200 rfl ?_
    refine g_iload C dL_law_201 rfl ?_
    refine g_iconst C 3 dL_law_203 (by decide +kernel) ?_
    refine g_iadd C (nI (i + 3)) dL_law_204 (nI_add i 3) ?_
    refine g_sld C hS (i + 3) rfl (by omega) dL_law_205 ?_
    refine g_aload_n C dL_law_206 rfl ?_
    refine g_iload C dL_law_207 rfl ?_
    refine g_iconst C 4 dL_law_209 (by decide +kernel) ?_
    refine g_iadd C (nI (i + 4)) dL_law_210 (nI_add i 4) ?_
    refine g_sld C hS (i + 4) rfl (by omega) dL_law_211 ?_
    refine g_swap ?_
    refine g_callVi C (wO cJ o (vp_updL ot 0 (Int32.toInt64 (nI nc))) ++ ((wCo cI a b d mg pt bd tk ho ri lo fv hd lf la ++ wSo cI cW a b r2 hp rl cn be bw wo) ++ wL cI cZ cG a r (nc + 1) nw (upd cx nc (xs (i + 1))) (upd cy nc (xs (i + 2))) (upd ch nc (xs (i + 3))) (upd rm nc (xs (i + 4))) (upd on nc 1) wx wy dm sv mu qq)) (wM cI cZ q nc nw cx cy ch rm on wx wy dm sv fv hd lf la mg pt bd tk ho ri lo us gv bs ld qs mS mD th) [.int (xs (i + 1)), .int (xs (i + 2)), .int (xs (i + 3)), .int (xs (i + 4))] (t_X3_cell hI.1) rfl rfl (cwV 4 C.ts gL_law_X3_cell rfl rfl rfl (by decide +kernel) ⟨Nat.le_of_ble_eq_true rfl, Nat.le_of_ble_eq_true rfl⟩) rfl rfl rfl (Nat.le_of_ble_eq_true rfl) dL_law_212 (rm_0 hkn) (fun r2v w2 hp2 => ?_)
    obtain ⟨M0, hr2, rfl⟩ | ⟨M1, rfl⟩ | ⟨⟨M2, M2b⟩, rfl⟩ := hp2
    · skip
      refine g_istore C [some (.ref bb), some (.ref (d 0)), some (.ref (q 0)), some (.ref o), some (.int (nI i)), some (.int 0), some (.int r2v)] dL_law_215 (by decide) rfl rfl ?_
      refine g_aload_n C dL_law_217 rfl ?_
      refine g_callVi C (wO cJ o (vp_updL ot 0 (Int32.toInt64 (nI nc))) ++ ((wCo cI a b d mg pt bd tk ho ri lo fv hd lf la ++ wSo cI cW a b r2 hp rl cn be bw wo) ++ wL cI cZ cG a r (nc + 1) nw (upd cx nc (xs (i + 1))) (upd cy nc (xs (i + 2))) (upd ch nc (xs (i + 3))) (upd rm nc (xs (i + 4))) (upd on nc 1) wx wy dm sv mu qq)) (wM cI cZ q (nc + 1) nw (upd cx nc (xs (i + 1))) (upd cy nc (xs (i + 2))) (upd ch nc (xs (i + 3))) (upd rm nc (xs (i + 4))) (upd on nc 1) wx wy dm sv fv hd lf la mg pt bd tk ho ri lo us gv bs ld qs mS mD 0) [] t_X3_thrown rfl rfl (cwV 0 C.ts gL_law_X3_thrown rfl rfl rfl (by decide +kernel) ⟨Nat.le_of_ble_eq_true rfl, Nat.le_of_ble_eq_true rfl⟩) rfl rfl rfl (Nat.le_of_ble_eq_true rfl) dL_law_218 (rm_0 hkn) (fun r3v w3 hp3 => ?_)
      obtain ⟨rfl, rfl⟩ := hp3
      refine g_iload C dL_law_221 rfl ?_
      refine g_icmp_eq C 228 dL_law_223 (by decide) (fun _ => ?_) (fun c9 => absurd rfl c9)
      refine g_iload C dL_law_228 rfl ?_
      refine g_if_ne C 245 dL_law_230 (by decide) (fun c9 => absurd rfl c9) (fun _ => ?_)
      refine g_aload_n C dL_law_233 rfl ?_
      refine g_iconst C 0 dL_law_234 (by decide +kernel) ?_
      refine g_lald C 0 2 rfl rfl 0 rfl (by decide) (by decide) (Int32.toInt64 (nI nc)) rfl dL_law_235 ?_
      refine g_iload C dL_law_236 rfl ?_
      refine g_i2l C (Int32.toInt64 r2v) dL_law_238 rfl ?_
      refine g_lcmp C dL_law_239 ?_
      refine g_if_eq C 245 dL_law_240 (by decide) (fun _ => ?_) (fun c9 => absurd (lc_eq hr2.symm) c9)
      refine g_goto C 1332 dL_law_245 (by decide) ?_
      refine g_swap ?_
      refine g_mask [true, true, true, true, true, false, false] rfl ?_
      exact K _ _ _ _ _ _ _ _ _ _ _ _ _ _ _ _ _ _ _ _ _ _ _ _ _ _ _ _ _ _ _ _ _ _ _ _ _ _ _ (INV_cell hI H0)
    · exact absurd (H0.1) (M1)
    · exact absurd (H0.2) (M2b)
  · skip
    refine g_istore C [some (.ref bb), some (.ref (d 0)), some (.ref (q 0)), some (.ref o), some (.int (nI i)), some (.int 1), none] dL_law_185 (by decide) rfl rfl ?_
    refine g_aload_n C dL_law_187 rfl ?_
    refine g_aload_n C dL_law_188 rfl ?_
    refine g_iload C dL_law_189 rfl ?_
    refine g_iconst C 1 dL_law_191 (by decide +kernel) ?_
    refine g_iadd C (nI (i + 1)) dL_law_192 (nI_add i 1) ?_
    refine g_sld C hS (i + 1) rfl (by omega) dL_law_193 ?_
    refine g_aload_n C dL_law_194 rfl ?_
    refine g_iload C dL_law_195 rfl ?_
    refine g_iconst C 2 dL_law_197 (by decide +kernel) ?_
    refine g_iadd C (nI (i + 2)) dL_law_198 (nI_add i 2) ?_
    refine g_sld C hS (i + 2) rfl (by omega) dL_law_199 ?_
    refine g_aload_n C dL_law_200 rfl ?_
    refine g_iload C dL_law_201 rfl ?_
    refine g_iconst C 3 dL_law_203 (by decide +kernel) ?_
    refine g_iadd C (nI (i + 3)) dL_law_204 (nI_add i 3) ?_
    refine g_sld C hS (i + 3) rfl (by omega) dL_law_205 ?_
    refine g_aload_n C dL_law_206 rfl ?_
    refine g_iload C dL_law_207 rfl ?_
    refine g_iconst C 4 dL_law_209 (by decide +kernel) ?_
    refine g_iadd C (nI (i + 4)) dL_law_210 (nI_add i 4) ?_
    refine g_sld C hS (i + 4) rfl (by omega) dL_law_211 ?_
    refine g_swap ?_
    refine g_callVi C (wO cJ o ot ++ ((wCo cI a b d mg pt bd tk ho ri lo fv hd lf la ++ wSo cI cW a b r2 hp rl cn be bw wo) ++ wL cI cZ cG a r nc nw cx cy ch rm on wx wy dm sv mu qq)) (wM cI cZ q nc nw cx cy ch rm on wx wy dm sv fv hd lf la mg pt bd tk ho ri lo us gv bs ld qs mS mD th) [.int (xs (i + 1)), .int (xs (i + 2)), .int (xs (i + 3)), .int (xs (i + 4))] (t_X3_cell hI.1) rfl rfl (cwV 4 C.ts gL_law_X3_cell rfl rfl rfl (by decide +kernel) ⟨Nat.le_of_ble_eq_true rfl, Nat.le_of_ble_eq_true rfl⟩) rfl rfl rfl (Nat.le_of_ble_eq_true rfl) dL_law_212 (rm_0 hkn) (fun r2v w2 hp2 => ?_)
    obtain ⟨M0, hr2, rfl⟩ | ⟨M1, rfl⟩ | ⟨⟨M2, M2b⟩, rfl⟩ := hp2
    · exact absurd (M0.1) (H1)
    · skip
      refine g_istore C [some (.ref bb), some (.ref (d 0)), some (.ref (q 0)), some (.ref o), some (.int (nI i)), some (.int 1), some (.int r2v)] dL_law_215 (by decide) rfl rfl ?_
      refine g_aload_n C dL_law_217 rfl ?_
      refine g_callVi C (wO cJ o ot ++ ((wCo cI a b d mg pt bd tk ho ri lo fv hd lf la ++ wSo cI cW a b r2 hp rl cn be bw wo) ++ wL cI cZ cG a r nc nw cx cy ch rm on wx wy dm sv mu qq)) (wM cI cZ q nc nw cx cy ch rm on wx wy dm sv fv hd lf la mg pt bd tk ho ri lo us gv bs ld qs mS mD 1) [] t_X3_thrown rfl rfl (cwV 0 C.ts gL_law_X3_thrown rfl rfl rfl (by decide +kernel) ⟨Nat.le_of_ble_eq_true rfl, Nat.le_of_ble_eq_true rfl⟩) rfl rfl rfl (Nat.le_of_ble_eq_true rfl) dL_law_218 (rm_0 hkn) (fun r3v w3 hp3 => ?_)
      obtain ⟨rfl, rfl⟩ := hp3
      refine g_iload C dL_law_221 rfl ?_
      refine g_icmp_eq C 228 dL_law_223 (by decide) (fun _ => ?_) (fun c9 => absurd rfl c9)
      refine g_iload C dL_law_228 rfl ?_
      refine g_if_ne C 245 dL_law_230 (by decide) (fun _ => ?_) (fun c9 => absurd c9 (by decide))
      refine g_goto C 1332 dL_law_245 (by decide) ?_
      refine g_swap ?_
      refine g_mask [true, true, true, true, true, false, false] rfl ?_
      exact K _ _ _ _ _ _ _ _ _ _ _ _ _ _ _ _ _ _ _ _ _ _ _ _ _ _ _ _ _ _ _ _ _ _ _ _ _ _ _ hI
    · exact absurd (M2) (H1)
  · skip
    refine g_istore C [some (.ref bb), some (.ref (d 0)), some (.ref (q 0)), some (.ref o), some (.int (nI i)), some (.int 2), none] dL_law_185 (by decide) rfl rfl ?_
    refine g_aload_n C dL_law_187 rfl ?_
    refine g_aload_n C dL_law_188 rfl ?_
    refine g_iload C dL_law_189 rfl ?_
    refine g_iconst C 1 dL_law_191 (by decide +kernel) ?_
    refine g_iadd C (nI (i + 1)) dL_law_192 (nI_add i 1) ?_
    refine g_sld C hS (i + 1) rfl (by omega) dL_law_193 ?_
    refine g_aload_n C dL_law_194 rfl ?_
    refine g_iload C dL_law_195 rfl ?_
    refine g_iconst C 2 dL_law_197 (by decide +kernel) ?_
    refine g_iadd C (nI (i + 2)) dL_law_198 (nI_add i 2) ?_
    refine g_sld C hS (i + 2) rfl (by omega) dL_law_199 ?_
    refine g_aload_n C dL_law_200 rfl ?_
    refine g_iload C dL_law_201 rfl ?_
    refine g_iconst C 3 dL_law_203 (by decide +kernel) ?_
    refine g_iadd C (nI (i + 3)) dL_law_204 (nI_add i 3) ?_
    refine g_sld C hS (i + 3) rfl (by omega) dL_law_205 ?_
    refine g_aload_n C dL_law_206 rfl ?_
    refine g_iload C dL_law_207 rfl ?_
    refine g_iconst C 4 dL_law_209 (by decide +kernel) ?_
    refine g_iadd C (nI (i + 4)) dL_law_210 (nI_add i 4) ?_
    refine g_sld C hS (i + 4) rfl (by omega) dL_law_211 ?_
    refine g_swap ?_
    refine g_callVi C (wO cJ o ot ++ ((wCo cI a b d mg pt bd tk ho ri lo fv hd lf la ++ wSo cI cW a b r2 hp rl cn be bw wo) ++ wL cI cZ cG a r nc nw cx cy ch rm on wx wy dm sv mu qq)) (wM cI cZ q nc nw cx cy ch rm on wx wy dm sv fv hd lf la mg pt bd tk ho ri lo us gv bs ld qs mS mD th) [.int (xs (i + 1)), .int (xs (i + 2)), .int (xs (i + 3)), .int (xs (i + 4))] (t_X3_cell hI.1) rfl rfl (cwV 4 C.ts gL_law_X3_cell rfl rfl rfl (by decide +kernel) ⟨Nat.le_of_ble_eq_true rfl, Nat.le_of_ble_eq_true rfl⟩) rfl rfl rfl (Nat.le_of_ble_eq_true rfl) dL_law_212 (rm_0 hkn) (fun r2v w2 hp2 => ?_)
    obtain ⟨M0, hr2, rfl⟩ | ⟨M1, rfl⟩ | ⟨⟨M2, M2b⟩, rfl⟩ := hp2
    · exact absurd (M0.2) (H2.2)
    · exact absurd (H2.1) (M1)
    · skip
      refine g_istore C [some (.ref bb), some (.ref (d 0)), some (.ref (q 0)), some (.ref o), some (.int (nI i)), some (.int 2), some (.int r2v)] dL_law_215 (by decide) rfl rfl ?_
      refine g_aload_n C dL_law_217 rfl ?_
      refine g_callVi C (wO cJ o ot ++ ((wCo cI a b d mg pt bd tk ho ri lo fv hd lf la ++ wSo cI cW a b r2 hp rl cn be bw wo) ++ wL cI cZ cG a r nc nw cx cy ch rm on wx wy dm sv mu qq)) (wM cI cZ q nc nw cx cy ch rm on wx wy dm sv fv hd lf la mg pt bd tk ho ri lo us gv bs ld qs mS mD 2) [] t_X3_thrown rfl rfl (cwV 0 C.ts gL_law_X3_thrown rfl rfl rfl (by decide +kernel) ⟨Nat.le_of_ble_eq_true rfl, Nat.le_of_ble_eq_true rfl⟩) rfl rfl rfl (Nat.le_of_ble_eq_true rfl) dL_law_218 (rm_0 hkn) (fun r3v w3 hp3 => ?_)
      obtain ⟨rfl, rfl⟩ := hp3
      refine g_iload C dL_law_221 rfl ?_
      refine g_icmp_eq C 228 dL_law_223 (by decide) (fun _ => ?_) (fun c9 => absurd rfl c9)
      refine g_iload C dL_law_228 rfl ?_
      refine g_if_ne C 245 dL_law_230 (by decide) (fun _ => ?_) (fun c9 => absurd c9 (by decide))
      refine g_goto C 1332 dL_law_245 (by decide) ?_
      refine g_swap ?_
      refine g_mask [true, true, true, true, true, false, false] rfl ?_
      exact K _ _ _ _ _ _ _ _ _ _ _ _ _ _ _ _ _ _ _ _ _ _ _ _ _ _ _ _ _ _ _ _ _ _ _ _ _ _ _ hI
set_option maxHeartbeats 1000000 in
set_option maxRecDepth 100000 in
theorem law_turn (C : CX p s m args meth c cL_law RL wsL_law D (T5 cI cZ cJ cG cW) A 7) (hl0 : l.stackTraces = false) (hX : XX A s s.heap) (hS : SCR A s bb L xs) (hi : i + 4 < L) (hkn : k + 10 ≤ 669564 ∧ n + 60 ≤ 7087412)
    (K : LK p l e s m args below meth c D A Q cI cZ cJ cG cW a b d q r r2 o (k + 10) (n + 60) [some (.ref bb), some (.ref (d 0)), some (.ref (q 0)), some (.ref o), some (.int (nI i)), none, none] 1332) : LK p l e s m args below meth c D A Q cI cZ cJ cG cW a b d q r r2 o k n [some (.ref bb), some (.ref (d 0)), some (.ref (q 0)), some (.ref o), some (.int (nI i)), none, none] 248 := by
  intro nc nw cx cy ch rm on wx wy dm sv fv hd lf la mg pt bd tk ho ri lo hp rl cn be bw wo mu qq ot us gv bs ld qs mS mD th hI
  refine g_aload_n C dL_law_248 rfl ?_
  refine g_aload_n C dL_law_249 rfl ?_
  refine g_iload C dL_law_250 rfl ?_
  refine g_iconst C 1 dL_law_252 (by decide +kernel) ?_
  refine g_iadd C (nI (i + 1)) dL_law_253 (nI_add i 1) ?_
  refine g_sld C hS (i + 1) rfl (by omega) dL_law_254 ?_
  refine g_aload_n C dL_law_255 rfl ?_
  refine gx_callH C hX (wM cI cZ q nc nw cx cy ch rm on wx wy dm sv fv hd lf la mg pt bd tk ho ri lo us gv bs ld qs mS mD th) (wO cJ o ot ++ ((wCo cI a b d mg pt bd tk ho ri lo fv hd lf la ++ wSo cI cW a b r2 hp rl cn be bw wo) ++ wL cI cZ cG a r nc nw cx cy ch rm on wx wy dm sv mu qq)) [.ref (d 0), .int (xs (i + 1)), .ref o] (t_L_turn hl0 hI.1 hI.2.1) (vx_cwSW 3 C.ts gL_law_L_turn rfl rfl rfl (by decide +kernel) ⟨Nat.le_of_ble_eq_true rfl, Nat.le_of_ble_eq_true rfl⟩) rfl rfl rfl (Nat.le_of_ble_eq_true rfl) dL_law_256 (rm_ok hkn (by decide) (by decide)) (fun r1v w1 hp1 => ?_)
  refine g_widen (k' := k + 10) (n' := n + 60) (by omega) (by omega) ?_
  obtain ⟨rfl, H0, rfl⟩ | ⟨rfl, H1, rfl⟩ := hp1
  · skip
    refine g_istore C [some (.ref bb), some (.ref (d 0)), some (.ref (q 0)), some (.ref o), some (.int (nI i)), some (.int 0), none] dL_law_259 (by decide) rfl rfl ?_
    refine g_aload_n C dL_law_261 rfl ?_
    refine g_aload_n C dL_law_262 rfl ?_
    refine g_iload C dL_law_263 rfl ?_
    refine g_iconst C 1 dL_law_265 (by decide +kernel) ?_
    refine g_iadd C (nI (i + 1)) dL_law_266 (nI_add i 1) ?_
    refine g_sld C hS (i + 1) rfl (by omega) dL_law_267 ?_
    refine g_swap ?_
    refine g_callVi C (wO cJ o (vp_updL ot 0 (if ftn (on (xs (i + 1)).toNatClampNeg) = 0 then 0 else 1)) ++ ((wCo cI a b d mg pt bd tk ho ri lo ((if on (xs (i + 1)).toNatClampNeg = 0 then (sv, fv, hd) else frw (xs (i + 1)) (sv, fv, hd) nw).2.1) ((if on (xs (i + 1)).toNatClampNeg = 0 then (sv, fv, hd) else frw (xs (i + 1)) (sv, fv, hd) nw).2.2) lf la ++ wSo cI cW a b r2 hp rl cn be bw wo) ++ wL cI cZ cG a r nc nw cx cy ch rm (upd on (xs (i + 1)).toNatClampNeg (ftn (on (xs (i + 1)).toNatClampNeg))) wx wy dm ((if on (xs (i + 1)).toNatClampNeg = 0 then (sv, fv, hd) else frw (xs (i + 1)) (sv, fv, hd) nw).1) mu qq)) (wM cI cZ q nc nw cx cy ch rm on wx wy dm sv fv hd lf la mg pt bd tk ho ri lo us gv bs ld qs mS mD th) [.int (xs (i + 1))] (t_X3_turn hI.1 hI.2.1) rfl rfl (cwV 1 C.ts gL_law_X3_turn rfl rfl rfl (by decide +kernel) ⟨Nat.le_of_ble_eq_true rfl, Nat.le_of_ble_eq_true rfl⟩) rfl rfl rfl (Nat.le_of_ble_eq_true rfl) dL_law_268 (rm_0 hkn) (fun r2v w2 hp2 => ?_)
    obtain ⟨M0, hr2, rfl⟩ | ⟨M1, rfl⟩ := hp2
    · skip
      refine g_istore C [some (.ref bb), some (.ref (d 0)), some (.ref (q 0)), some (.ref o), some (.int (nI i)), some (.int 0), some (.int r2v)] dL_law_271 (by decide) rfl rfl ?_
      refine g_aload_n C dL_law_273 rfl ?_
      refine g_callVi C (wO cJ o (vp_updL ot 0 (if ftn (on (xs (i + 1)).toNatClampNeg) = 0 then 0 else 1)) ++ ((wCo cI a b d mg pt bd tk ho ri lo ((if on (xs (i + 1)).toNatClampNeg = 0 then (sv, fv, hd) else frw (xs (i + 1)) (sv, fv, hd) nw).2.1) ((if on (xs (i + 1)).toNatClampNeg = 0 then (sv, fv, hd) else frw (xs (i + 1)) (sv, fv, hd) nw).2.2) lf la ++ wSo cI cW a b r2 hp rl cn be bw wo) ++ wL cI cZ cG a r nc nw cx cy ch rm (upd on (xs (i + 1)).toNatClampNeg (ftn (on (xs (i + 1)).toNatClampNeg))) wx wy dm ((if on (xs (i + 1)).toNatClampNeg = 0 then (sv, fv, hd) else frw (xs (i + 1)) (sv, fv, hd) nw).1) mu qq)) (wM cI cZ q nc nw cx cy ch rm (upd on (xs (i + 1)).toNatClampNeg (ftn (on (xs (i + 1)).toNatClampNeg))) wx wy dm ((if on (xs (i + 1)).toNatClampNeg = 0 then (sv, fv, hd) else frw (xs (i + 1)) (sv, fv, hd) nw).1) ((if on (xs (i + 1)).toNatClampNeg = 0 then (sv, fv, hd) else frw (xs (i + 1)) (sv, fv, hd) nw).2.1) ((if on (xs (i + 1)).toNatClampNeg = 0 then (sv, fv, hd) else frw (xs (i + 1)) (sv, fv, hd) nw).2.2) lf la mg pt bd tk ho ri lo us gv bs ld qs mS mD 0) [] t_X3_thrown rfl rfl (cwV 0 C.ts gL_law_X3_thrown rfl rfl rfl (by decide +kernel) ⟨Nat.le_of_ble_eq_true rfl, Nat.le_of_ble_eq_true rfl⟩) rfl rfl rfl (Nat.le_of_ble_eq_true rfl) dL_law_274 (rm_0 hkn) (fun r3v w3 hp3 => ?_)
      obtain ⟨rfl, rfl⟩ := hp3
      refine g_iload C dL_law_277 rfl ?_
      refine g_icmp_eq C 284 dL_law_279 (by decide) (fun _ => ?_) (fun c9 => absurd rfl c9)
      refine g_iload C dL_law_284 rfl ?_
      refine g_if_ne C 308 dL_law_286 (by decide) (fun c9 => absurd rfl c9) (fun _ => ?_)
      refine g_aload_n C dL_law_289 rfl ?_
      refine g_iconst C 0 dL_law_290 (by decide +kernel) ?_
      refine g_lald C 0 2 rfl rfl 0 rfl (by decide) (by decide) (if ftn (on (xs (i + 1)).toNatClampNeg) = 0 then 0 else 1) rfl dL_law_291 ?_
      refine g_iload C dL_law_292 rfl ?_
      refine g_if_eq C 301 dL_law_294 (by decide) (fun c8 => ?_) (fun c8 => ?_)
      · skip
        refine g_lconst C 0 dL_law_301 (by decide +kernel) ?_
        refine g_lcmp C dL_law_302 ?_
        refine g_if_eq C 308 dL_law_303 (by decide) (fun _ => ?_) (fun c9 => absurd (by rw [if_pos (show ftn (on (xs (i + 1)).toNatClampNeg) = 0 by rw [← hr2]; exact c8)]; rfl) c9)
        refine g_goto C 1332 dL_law_308 (by decide) ?_
        refine g_swap ?_
        refine g_mask [true, true, true, true, true, false, false] rfl ?_
        exact K _ _ _ _ _ _ _ _ _ _ _ _ _ _ _ _ _ _ _ _ _ _ _ _ _ _ _ _ _ _ _ _ _ _ _ _ _ _ _ (INV_turn hI)
      · skip
        refine g_lconst C 1 dL_law_297 (by decide +kernel) ?_
        refine g_goto C 302 dL_law_298 (by decide) ?_
        refine g_lcmp C dL_law_302 ?_
        refine g_if_eq C 308 dL_law_303 (by decide) (fun _ => ?_) (fun c9 => absurd (by rw [if_neg (show ¬ ftn (on (xs (i + 1)).toNatClampNeg) = 0 by rw [← hr2]; exact c8)]; rfl) c9)
        refine g_goto C 1332 dL_law_308 (by decide) ?_
        refine g_swap ?_
        refine g_mask [true, true, true, true, true, false, false] rfl ?_
        exact K _ _ _ _ _ _ _ _ _ _ _ _ _ _ _ _ _ _ _ _ _ _ _ _ _ _ _ _ _ _ _ _ _ _ _ _ _ _ _ (INV_turn hI)
    · exact absurd (H0) (M1)
  · skip
    refine g_istore C [some (.ref bb), some (.ref (d 0)), some (.ref (q 0)), some (.ref o), some (.int (nI i)), some (.int 1), none] dL_law_259 (by decide) rfl rfl ?_
    refine g_aload_n C dL_law_261 rfl ?_
    refine g_aload_n C dL_law_262 rfl ?_
    refine g_iload C dL_law_263 rfl ?_
    refine g_iconst C 1 dL_law_265 (by decide +kernel) ?_
    refine g_iadd C (nI (i + 1)) dL_law_266 (nI_add i 1) ?_
    refine g_sld C hS (i + 1) rfl (by omega) dL_law_267 ?_
    refine g_swap ?_
    refine g_callVi C (wO cJ o ot ++ ((wCo cI a b d mg pt bd tk ho ri lo fv hd lf la ++ wSo cI cW a b r2 hp rl cn be bw wo) ++ wL cI cZ cG a r nc nw cx cy ch rm on wx wy dm sv mu qq)) (wM cI cZ q nc nw cx cy ch rm on wx wy dm sv fv hd lf la mg pt bd tk ho ri lo us gv bs ld qs mS mD th) [.int (xs (i + 1))] (t_X3_turn hI.1 hI.2.1) rfl rfl (cwV 1 C.ts gL_law_X3_turn rfl rfl rfl (by decide +kernel) ⟨Nat.le_of_ble_eq_true rfl, Nat.le_of_ble_eq_true rfl⟩) rfl rfl rfl (Nat.le_of_ble_eq_true rfl) dL_law_268 (rm_0 hkn) (fun r2v w2 hp2 => ?_)
    obtain ⟨M0, hr2, rfl⟩ | ⟨M1, rfl⟩ := hp2
    · exact absurd (M0) (H1)
    · skip
      refine g_istore C [some (.ref bb), some (.ref (d 0)), some (.ref (q 0)), some (.ref o), some (.int (nI i)), some (.int 1), some (.int r2v)] dL_law_271 (by decide) rfl rfl ?_
      refine g_aload_n C dL_law_273 rfl ?_
      refine g_callVi C (wO cJ o ot ++ ((wCo cI a b d mg pt bd tk ho ri lo fv hd lf la ++ wSo cI cW a b r2 hp rl cn be bw wo) ++ wL cI cZ cG a r nc nw cx cy ch rm on wx wy dm sv mu qq)) (wM cI cZ q nc nw cx cy ch rm on wx wy dm sv fv hd lf la mg pt bd tk ho ri lo us gv bs ld qs mS mD 1) [] t_X3_thrown rfl rfl (cwV 0 C.ts gL_law_X3_thrown rfl rfl rfl (by decide +kernel) ⟨Nat.le_of_ble_eq_true rfl, Nat.le_of_ble_eq_true rfl⟩) rfl rfl rfl (Nat.le_of_ble_eq_true rfl) dL_law_274 (rm_0 hkn) (fun r3v w3 hp3 => ?_)
      obtain ⟨rfl, rfl⟩ := hp3
      refine g_iload C dL_law_277 rfl ?_
      refine g_icmp_eq C 284 dL_law_279 (by decide) (fun _ => ?_) (fun c9 => absurd rfl c9)
      refine g_iload C dL_law_284 rfl ?_
      refine g_if_ne C 308 dL_law_286 (by decide) (fun _ => ?_) (fun c9 => absurd c9 (by decide))
      refine g_goto C 1332 dL_law_308 (by decide) ?_
      refine g_swap ?_
      refine g_mask [true, true, true, true, true, false, false] rfl ?_
      exact K _ _ _ _ _ _ _ _ _ _ _ _ _ _ _ _ _ _ _ _ _ _ _ _ _ _ _ _ _ _ _ _ _ _ _ _ _ _ _ hI
set_option maxHeartbeats 1000000 in
set_option maxRecDepth 100000 in
theorem law_tune (C : CX p s m args meth c cL_law RL wsL_law D (T5 cI cZ cJ cG cW) A 7) (hl0 : l.stackTraces = false) (hX : XX A s s.heap) (hS : SCR A s bb L xs) (hi : i + 4 < L) (hkn : k + 10 ≤ 669564 ∧ n + 60 ≤ 7087412)
    (K : LK p l e s m args below meth c D A Q cI cZ cJ cG cW a b d q r r2 o (k + 10) (n + 60) [some (.ref bb), some (.ref (d 0)), some (.ref (q 0)), some (.ref o), some (.int (nI i)), none, none] 1332) : LK p l e s m args below meth c D A Q cI cZ cJ cG cW a b d q r r2 o k n [some (.ref bb), some (.ref (d 0)), some (.ref (q 0)), some (.ref o), some (.int (nI i)), none, none] 311 := by
  intro nc nw cx cy ch rm on wx wy dm sv fv hd lf la mg pt bd tk ho ri lo hp rl cn be bw wo mu qq ot us gv bs ld qs mS mD th hI
  refine g_aload_n C dL_law_311 rfl ?_
  refine g_aload_n C dL_law_312 rfl ?_
  refine g_iload C dL_law_313 rfl ?_
  refine g_iconst C 1 dL_law_315 (by decide +kernel) ?_
  refine g_iadd C (nI (i + 1)) dL_law_316 (nI_add i 1) ?_
  refine g_sld C hS (i + 1) rfl (by omega) dL_law_317 ?_
  refine g_aload_n C dL_law_318 rfl ?_
  refine g_iload C dL_law_319 rfl ?_
  refine g_iconst C 2 dL_law_321 (by decide +kernel) ?_
  refine g_iadd C (nI (i + 2)) dL_law_322 (nI_add i 2) ?_
  refine g_sld C hS (i + 2) rfl (by omega) dL_law_323 ?_
  refine g_aload_n C dL_law_324 rfl ?_
  refine gx_callH C hX (wM cI cZ q nc nw cx cy ch rm on wx wy dm sv fv hd lf la mg pt bd tk ho ri lo us gv bs ld qs mS mD th) (wO cJ o ot ++ ((wCo cI a b d mg pt bd tk ho ri lo fv hd lf la ++ wSo cI cW a b r2 hp rl cn be bw wo) ++ wL cI cZ cG a r nc nw cx cy ch rm on wx wy dm sv mu qq)) [.ref (d 0), .int (xs (i + 1)), .int (xs (i + 2)), .ref o] (t_L_tune hl0 hI.1) (vx_cwSW 4 C.ts gL_law_L_tune rfl rfl rfl (by decide +kernel) ⟨Nat.le_of_ble_eq_true rfl, Nat.le_of_ble_eq_true rfl⟩) rfl rfl rfl (Nat.le_of_ble_eq_true rfl) dL_law_325 (rm_ok hkn (by decide) (by decide)) (fun r1v w1 hp1 => ?_)
  refine g_widen (k' := k + 10) (n' := n + 60) (by omega) (by omega) ?_
  obtain ⟨rfl, H0, rfl⟩ | ⟨rfl, H1, rfl⟩ | ⟨rfl, H2, rfl⟩ := hp1
  · skip
    refine g_istore C [some (.ref bb), some (.ref (d 0)), some (.ref (q 0)), some (.ref o), some (.int (nI i)), some (.int 0), none] dL_law_328 (by decide) rfl rfl ?_
    refine g_aload_n C dL_law_330 rfl ?_
    refine g_aload_n C dL_law_331 rfl ?_
    refine g_iload C dL_law_332 rfl ?_
    refine g_iconst C 1 dL_law_334 (by decide +kernel) ?_
    refine g_iadd C (nI (i + 1)) dL_law_335 (nI_add i 1) ?_
    refine g_sld C hS (i + 1) rfl (by omega) dL_law_336 ?_
    refine g_aload_n C dL_law_337 rfl ?_
    refine g_iload C dL_law_338 rfl ?_
    refine g_iconst C 2 dL_law_340 (by decide +kernel) ?_
    refine g_iadd C (nI (i + 2)) dL_law_341 (nI_add i 2) ?_
    refine g_sld C hS (i + 2) rfl (by omega) dL_law_342 ?_
    refine g_swap ?_
    refine g_callVi C (wO cJ o (vp_updL ot 0 (Int32.toInt64 (ch (xs (i + 1)).toNatClampNeg))) ++ ((wCo cI a b d mg pt bd tk ho ri lo fv hd lf la ++ wSo cI cW a b r2 hp rl cn be bw wo) ++ wL cI cZ cG a r nc nw cx cy (upd ch (xs (i + 1)).toNatClampNeg (xs (i + 2))) rm on wx wy dm sv mu qq)) (wM cI cZ q nc nw cx cy ch rm on wx wy dm sv fv hd lf la mg pt bd tk ho ri lo us gv bs ld qs mS mD th) [.int (xs (i + 1)), .int (xs (i + 2))] (t_X3_tune hI.1) rfl rfl (cwV 2 C.ts gL_law_X3_tune rfl rfl rfl (by decide +kernel) ⟨Nat.le_of_ble_eq_true rfl, Nat.le_of_ble_eq_true rfl⟩) rfl rfl rfl (Nat.le_of_ble_eq_true rfl) dL_law_343 (rm_0 hkn) (fun r2v w2 hp2 => ?_)
    obtain ⟨M0, hr2, rfl⟩ | ⟨M1, rfl⟩ | ⟨M2, M2b, rfl⟩ := hp2
    · skip
      refine g_istore C [some (.ref bb), some (.ref (d 0)), some (.ref (q 0)), some (.ref o), some (.int (nI i)), some (.int 0), some (.int r2v)] dL_law_346 (by decide) rfl rfl ?_
      refine g_aload_n C dL_law_348 rfl ?_
      refine g_callVi C (wO cJ o (vp_updL ot 0 (Int32.toInt64 (ch (xs (i + 1)).toNatClampNeg))) ++ ((wCo cI a b d mg pt bd tk ho ri lo fv hd lf la ++ wSo cI cW a b r2 hp rl cn be bw wo) ++ wL cI cZ cG a r nc nw cx cy (upd ch (xs (i + 1)).toNatClampNeg (xs (i + 2))) rm on wx wy dm sv mu qq)) (wM cI cZ q nc nw cx cy (upd ch (xs (i + 1)).toNatClampNeg (xs (i + 2))) rm on wx wy dm sv fv hd lf la mg pt bd tk ho ri lo us gv bs ld qs mS mD 0) [] t_X3_thrown rfl rfl (cwV 0 C.ts gL_law_X3_thrown rfl rfl rfl (by decide +kernel) ⟨Nat.le_of_ble_eq_true rfl, Nat.le_of_ble_eq_true rfl⟩) rfl rfl rfl (Nat.le_of_ble_eq_true rfl) dL_law_349 (rm_0 hkn) (fun r3v w3 hp3 => ?_)
      obtain ⟨rfl, rfl⟩ := hp3
      refine g_iload C dL_law_352 rfl ?_
      refine g_icmp_eq C 359 dL_law_354 (by decide) (fun _ => ?_) (fun c9 => absurd rfl c9)
      refine g_iload C dL_law_359 rfl ?_
      refine g_if_ne C 376 dL_law_361 (by decide) (fun c9 => absurd rfl c9) (fun _ => ?_)
      refine g_aload_n C dL_law_364 rfl ?_
      refine g_iconst C 0 dL_law_365 (by decide +kernel) ?_
      refine g_lald C 0 2 rfl rfl 0 rfl (by decide) (by decide) (Int32.toInt64 (ch (xs (i + 1)).toNatClampNeg)) rfl dL_law_366 ?_
      refine g_iload C dL_law_367 rfl ?_
      refine g_i2l C (Int32.toInt64 r2v) dL_law_369 rfl ?_
      refine g_lcmp C dL_law_370 ?_
      refine g_if_eq C 376 dL_law_371 (by decide) (fun _ => ?_) (fun c9 => absurd (lc_eq hr2.symm) c9)
      refine g_goto C 1332 dL_law_376 (by decide) ?_
      refine g_swap ?_
      refine g_mask [true, true, true, true, true, false, false] rfl ?_
      exact K _ _ _ _ _ _ _ _ _ _ _ _ _ _ _ _ _ _ _ _ _ _ _ _ _ _ _ _ _ _ _ _ _ _ _ _ _ _ _ (INV_tune hI H0)
    · exact absurd (H0.1) (M1)
    · exact absurd (H0.2) (M2b)
  · skip
    refine g_istore C [some (.ref bb), some (.ref (d 0)), some (.ref (q 0)), some (.ref o), some (.int (nI i)), some (.int 1), none] dL_law_328 (by decide) rfl rfl ?_
    refine g_aload_n C dL_law_330 rfl ?_
    refine g_aload_n C dL_law_331 rfl ?_
    refine g_iload C dL_law_332 rfl ?_
    refine g_iconst C 1 dL_law_334 (by decide +kernel) ?_
    refine g_iadd C (nI (i + 1)) dL_law_335 (nI_add i 1) ?_
    refine g_sld C hS (i + 1) rfl (by omega) dL_law_336 ?_
    refine g_aload_n C dL_law_337 rfl ?_
    refine g_iload C dL_law_338 rfl ?_
    refine g_iconst C 2 dL_law_340 (by decide +kernel) ?_
    refine g_iadd C (nI (i + 2)) dL_law_341 (nI_add i 2) ?_
    refine g_sld C hS (i + 2) rfl (by omega) dL_law_342 ?_
    refine g_swap ?_
    refine g_callVi C (wO cJ o ot ++ ((wCo cI a b d mg pt bd tk ho ri lo fv hd lf la ++ wSo cI cW a b r2 hp rl cn be bw wo) ++ wL cI cZ cG a r nc nw cx cy ch rm on wx wy dm sv mu qq)) (wM cI cZ q nc nw cx cy ch rm on wx wy dm sv fv hd lf la mg pt bd tk ho ri lo us gv bs ld qs mS mD th) [.int (xs (i + 1)), .int (xs (i + 2))] (t_X3_tune hI.1) rfl rfl (cwV 2 C.ts gL_law_X3_tune rfl rfl rfl (by decide +kernel) ⟨Nat.le_of_ble_eq_true rfl, Nat.le_of_ble_eq_true rfl⟩) rfl rfl rfl (Nat.le_of_ble_eq_true rfl) dL_law_343 (rm_0 hkn) (fun r2v w2 hp2 => ?_)
    obtain ⟨M0, hr2, rfl⟩ | ⟨M1, rfl⟩ | ⟨M2, M2b, rfl⟩ := hp2
    · exact absurd (M0.1) (H1)
    · skip
      refine g_istore C [some (.ref bb), some (.ref (d 0)), some (.ref (q 0)), some (.ref o), some (.int (nI i)), some (.int 1), some (.int r2v)] dL_law_346 (by decide) rfl rfl ?_
      refine g_aload_n C dL_law_348 rfl ?_
      refine g_callVi C (wO cJ o ot ++ ((wCo cI a b d mg pt bd tk ho ri lo fv hd lf la ++ wSo cI cW a b r2 hp rl cn be bw wo) ++ wL cI cZ cG a r nc nw cx cy ch rm on wx wy dm sv mu qq)) (wM cI cZ q nc nw cx cy ch rm on wx wy dm sv fv hd lf la mg pt bd tk ho ri lo us gv bs ld qs mS mD 1) [] t_X3_thrown rfl rfl (cwV 0 C.ts gL_law_X3_thrown rfl rfl rfl (by decide +kernel) ⟨Nat.le_of_ble_eq_true rfl, Nat.le_of_ble_eq_true rfl⟩) rfl rfl rfl (Nat.le_of_ble_eq_true rfl) dL_law_349 (rm_0 hkn) (fun r3v w3 hp3 => ?_)
      obtain ⟨rfl, rfl⟩ := hp3
      refine g_iload C dL_law_352 rfl ?_
      refine g_icmp_eq C 359 dL_law_354 (by decide) (fun _ => ?_) (fun c9 => absurd rfl c9)
      refine g_iload C dL_law_359 rfl ?_
      refine g_if_ne C 376 dL_law_361 (by decide) (fun _ => ?_) (fun c9 => absurd c9 (by decide))
      refine g_goto C 1332 dL_law_376 (by decide) ?_
      refine g_swap ?_
      refine g_mask [true, true, true, true, true, false, false] rfl ?_
      exact K _ _ _ _ _ _ _ _ _ _ _ _ _ _ _ _ _ _ _ _ _ _ _ _ _ _ _ _ _ _ _ _ _ _ _ _ _ _ _ hI
    · exact absurd (M2) (H1)
  · skip
    refine g_istore C [some (.ref bb), some (.ref (d 0)), some (.ref (q 0)), some (.ref o), some (.int (nI i)), some (.int 2), none] dL_law_328 (by decide) rfl rfl ?_
    refine g_aload_n C dL_law_330 rfl ?_
    refine g_aload_n C dL_law_331 rfl ?_
    refine g_iload C dL_law_332 rfl ?_
    refine g_iconst C 1 dL_law_334 (by decide +kernel) ?_
    refine g_iadd C (nI (i + 1)) dL_law_335 (nI_add i 1) ?_
    refine g_sld C hS (i + 1) rfl (by omega) dL_law_336 ?_
    refine g_aload_n C dL_law_337 rfl ?_
    refine g_iload C dL_law_338 rfl ?_
    refine g_iconst C 2 dL_law_340 (by decide +kernel) ?_
    refine g_iadd C (nI (i + 2)) dL_law_341 (nI_add i 2) ?_
    refine g_sld C hS (i + 2) rfl (by omega) dL_law_342 ?_
    refine g_swap ?_
    refine g_callVi C (wO cJ o ot ++ ((wCo cI a b d mg pt bd tk ho ri lo fv hd lf la ++ wSo cI cW a b r2 hp rl cn be bw wo) ++ wL cI cZ cG a r nc nw cx cy ch rm on wx wy dm sv mu qq)) (wM cI cZ q nc nw cx cy ch rm on wx wy dm sv fv hd lf la mg pt bd tk ho ri lo us gv bs ld qs mS mD th) [.int (xs (i + 1)), .int (xs (i + 2))] (t_X3_tune hI.1) rfl rfl (cwV 2 C.ts gL_law_X3_tune rfl rfl rfl (by decide +kernel) ⟨Nat.le_of_ble_eq_true rfl, Nat.le_of_ble_eq_true rfl⟩) rfl rfl rfl (Nat.le_of_ble_eq_true rfl) dL_law_343 (rm_0 hkn) (fun r2v w2 hp2 => ?_)
    obtain ⟨M0, hr2, rfl⟩ | ⟨M1, rfl⟩ | ⟨M2, M2b, rfl⟩ := hp2
    · exact absurd (M0.2) (H2.2)
    · exact absurd (H2.1) (M1)
    · skip
      refine g_istore C [some (.ref bb), some (.ref (d 0)), some (.ref (q 0)), some (.ref o), some (.int (nI i)), some (.int 2), some (.int r2v)] dL_law_346 (by decide) rfl rfl ?_
      refine g_aload_n C dL_law_348 rfl ?_
      refine g_callVi C (wO cJ o ot ++ ((wCo cI a b d mg pt bd tk ho ri lo fv hd lf la ++ wSo cI cW a b r2 hp rl cn be bw wo) ++ wL cI cZ cG a r nc nw cx cy ch rm on wx wy dm sv mu qq)) (wM cI cZ q nc nw cx cy ch rm on wx wy dm sv fv hd lf la mg pt bd tk ho ri lo us gv bs ld qs mS mD 2) [] t_X3_thrown rfl rfl (cwV 0 C.ts gL_law_X3_thrown rfl rfl rfl (by decide +kernel) ⟨Nat.le_of_ble_eq_true rfl, Nat.le_of_ble_eq_true rfl⟩) rfl rfl rfl (Nat.le_of_ble_eq_true rfl) dL_law_349 (rm_0 hkn) (fun r3v w3 hp3 => ?_)
      obtain ⟨rfl, rfl⟩ := hp3
      refine g_iload C dL_law_352 rfl ?_
      refine g_icmp_eq C 359 dL_law_354 (by decide) (fun _ => ?_) (fun c9 => absurd rfl c9)
      refine g_iload C dL_law_359 rfl ?_
      refine g_if_ne C 376 dL_law_361 (by decide) (fun _ => ?_) (fun c9 => absurd c9 (by decide))
      refine g_goto C 1332 dL_law_376 (by decide) ?_
      refine g_swap ?_
      refine g_mask [true, true, true, true, true, false, false] rfl ?_
      exact K _ _ _ _ _ _ _ _ _ _ _ _ _ _ _ _ _ _ _ _ _ _ _ _ _ _ _ _ _ _ _ _ _ _ _ _ _ _ _ hI
set_option maxHeartbeats 1000000 in
set_option maxRecDepth 100000 in
theorem law_walker (C : CX p s m args meth c cL_law RL wsL_law D (T5 cI cZ cJ cG cW) A 7) (hl0 : l.stackTraces = false) (hX : XX A s s.heap) (hS : SCR A s bb L xs) (hi : i + 4 < L) (hkn : k + 10 ≤ 669564 ∧ n + 60 ≤ 7087412)
    (K : LK p l e s m args below meth c D A Q cI cZ cJ cG cW a b d q r r2 o (k + 10) (n + 60) [some (.ref bb), some (.ref (d 0)), some (.ref (q 0)), some (.ref o), some (.int (nI i)), none, none] 1332) : LK p l e s m args below meth c D A Q cI cZ cJ cG cW a b d q r r2 o k n [some (.ref bb), some (.ref (d 0)), some (.ref (q 0)), some (.ref o), some (.int (nI i)), none, none] 379 := by
  intro nc nw cx cy ch rm on wx wy dm sv fv hd lf la mg pt bd tk ho ri lo hp rl cn be bw wo mu qq ot us gv bs ld qs mS mD th hI
  refine g_aload_n C dL_law_379 rfl ?_
  refine g_aload_n C dL_law_380 rfl ?_
  refine g_iload C dL_law_381 rfl ?_
  refine g_iconst C 1 dL_law_383 (by decide +kernel) ?_
  refine g_iadd C (nI (i + 1)) dL_law_384 (nI_add i 1) ?_
  refine g_sld C hS (i + 1) rfl (by omega) dL_law_385 ?_
  refine g_aload_n C dL_law_386 rfl ?_
  refine g_iload C dL_law_387 rfl ?_
  refine g_iconst C 2 dL_law_389 (by decide +kernel) ?_
  refine g_iadd C (nI (i + 2)) dL_law_390 (nI_add i 2) ?_
  refine g_sld C hS (i + 2) rfl (by omega) dL_law_391 ?_
  refine g_aload_n C dL_law_392 rfl ?_
  refine g_iload C dL_law_393 rfl ?_
  refine g_iconst C 3 dL_law_395 (by decide +kernel) ?_
  refine g_iadd C (nI (i + 3)) dL_law_396 (nI_add i 3) ?_
  refine g_sld C hS (i + 3) rfl (by omega) dL_law_397 ?_
  refine g_aload_n C dL_law_398 rfl ?_
  refine gx_callH C hX (wM cI cZ q nc nw cx cy ch rm on wx wy dm sv fv hd lf la mg pt bd tk ho ri lo us gv bs ld qs mS mD th) (wO cJ o ot ++ ((wCo cI a b d mg pt bd tk ho ri lo fv hd lf la ++ wSo cI cW a b r2 hp rl cn be bw wo) ++ wL cI cZ cG a r nc nw cx cy ch rm on wx wy dm sv mu qq)) [.ref (d 0), .int (xs (i + 1)), .int (xs (i + 2)), .int (xs (i + 3)), .ref o] (t_L_walker hl0 hI.2.1) (vx_cwSW 5 C.ts gL_law_L_walker rfl rfl rfl (by decide +kernel) ⟨Nat.le_of_ble_eq_true rfl, Nat.le_of_ble_eq_true rfl⟩) rfl rfl rfl (Nat.le_of_ble_eq_true rfl) dL_law_399 (rm_ok hkn (by decide) (by decide)) (fun r1v w1 hp1 => ?_)
  refine g_widen (k' := k + 10) (n' := n + 60) (by omega) (by omega) ?_
  obtain ⟨rfl, H0, rfl⟩ | ⟨rfl, H1, rfl⟩ | ⟨rfl, H2, rfl⟩ := hp1
  · skip
    refine g_istore C [some (.ref bb), some (.ref (d 0)), some (.ref (q 0)), some (.ref o), some (.int (nI i)), some (.int 0), none] dL_law_402 (by decide) rfl rfl ?_
    refine g_aload_n C dL_law_404 rfl ?_
    refine g_aload_n C dL_law_405 rfl ?_
    refine g_iload C dL_law_406 rfl ?_
    refine g_iconst C 1 dL_law_408 (by decide +kernel) ?_
    refine g_iadd C (nI (i + 1)) dL_law_409 (nI_add i 1) ?_
    refine g_sld C hS (i + 1) rfl (by omega) dL_law_410 ?_
    refine g_aload_n C dL_law_411 rfl ?_
    refine g_iload C dL_law_412 rfl ?_
    refine g_iconst C 2 dL_law_414 (by decide +kernel) ?_
    refine g_iadd C (nI (i + 2)) dL_law_415 (nI_add i 2) ?_
    refine g_sld C hS (i + 2) rfl (by omega) dL_law_416 ?_
    refine g_aload_n C dL_law_417 rfl ?_
    refine g_iload C dL_law_418 rfl ?_
    refine g_iconst C 3 dL_law_420 (by decide +kernel) ?_
    refine g_iadd C (nI (i + 3)) dL_law_421 (nI_add i 3) ?_
    refine g_sld C hS (i + 3) rfl (by omega) dL_law_422 ?_
    refine g_swap ?_
    refine g_callVi C (wO cJ o (vp_updL ot 0 (Int32.toInt64 (nI nw))) ++ ((wCo cI a b d mg pt bd tk ho ri lo (upd fv nw (-1)) (upd hd nw 0) (upd lf nw (-1)) la ++ wSo cI cW a b r2 hp rl cn be bw wo) ++ wL cI cZ cG a r nc (nw + 1) cx cy ch rm on (upd wx nw (xs (i + 1))) (upd wy nw (xs (i + 2))) (upd dm nw (xs (i + 3))) (upd sv nw (-1)) mu qq)) (wM cI cZ q nc nw cx cy ch rm on wx wy dm sv fv hd lf la mg pt bd tk ho ri lo us gv bs ld qs mS mD th) [.int (xs (i + 1)), .int (xs (i + 2)), .int (xs (i + 3))] (t_X3_walker hI.2.1) rfl rfl (cwV 3 C.ts gL_law_X3_walker rfl rfl rfl (by decide +kernel) ⟨Nat.le_of_ble_eq_true rfl, Nat.le_of_ble_eq_true rfl⟩) rfl rfl rfl (Nat.le_of_ble_eq_true rfl) dL_law_423 (rm_0 hkn) (fun r2v w2 hp2 => ?_)
    obtain ⟨M0, hr2, rfl⟩ | ⟨M1, rfl⟩ | ⟨⟨M2, M2b⟩, rfl⟩ := hp2
    · skip
      refine g_istore C [some (.ref bb), some (.ref (d 0)), some (.ref (q 0)), some (.ref o), some (.int (nI i)), some (.int 0), some (.int r2v)] dL_law_426 (by decide) rfl rfl ?_
      refine g_aload_n C dL_law_428 rfl ?_
      refine g_callVi C (wO cJ o (vp_updL ot 0 (Int32.toInt64 (nI nw))) ++ ((wCo cI a b d mg pt bd tk ho ri lo (upd fv nw (-1)) (upd hd nw 0) (upd lf nw (-1)) la ++ wSo cI cW a b r2 hp rl cn be bw wo) ++ wL cI cZ cG a r nc (nw + 1) cx cy ch rm on (upd wx nw (xs (i + 1))) (upd wy nw (xs (i + 2))) (upd dm nw (xs (i + 3))) (upd sv nw (-1)) mu qq)) (wM cI cZ q nc (nw + 1) cx cy ch rm on (upd wx nw (xs (i + 1))) (upd wy nw (xs (i + 2))) (upd dm nw (xs (i + 3))) (upd sv nw (-1)) (upd fv nw (-1)) (upd hd nw 0) (upd lf nw (-1)) la mg pt bd tk ho ri lo us gv bs ld qs mS mD 0) [] t_X3_thrown rfl rfl (cwV 0 C.ts gL_law_X3_thrown rfl rfl rfl (by decide +kernel) ⟨Nat.le_of_ble_eq_true rfl, Nat.le_of_ble_eq_true rfl⟩) rfl rfl rfl (Nat.le_of_ble_eq_true rfl) dL_law_429 (rm_0 hkn) (fun r3v w3 hp3 => ?_)
      obtain ⟨rfl, rfl⟩ := hp3
      refine g_iload C dL_law_432 rfl ?_
      refine g_icmp_eq C 439 dL_law_434 (by decide) (fun _ => ?_) (fun c9 => absurd rfl c9)
      refine g_iload C dL_law_439 rfl ?_
      refine g_if_ne C 456 dL_law_441 (by decide) (fun c9 => absurd rfl c9) (fun _ => ?_)
      refine g_aload_n C dL_law_444 rfl ?_
      refine g_iconst C 0 dL_law_445 (by decide +kernel) ?_
      refine g_lald C 0 2 rfl rfl 0 rfl (by decide) (by decide) (Int32.toInt64 (nI nw)) rfl dL_law_446 ?_
      refine g_iload C dL_law_447 rfl ?_
      refine g_i2l C (Int32.toInt64 r2v) dL_law_449 rfl ?_
      refine g_lcmp C dL_law_450 ?_
      refine g_if_eq C 456 dL_law_451 (by decide) (fun _ => ?_) (fun c9 => absurd (lc_eq hr2.symm) c9)
      refine g_goto C 1332 dL_law_456 (by decide) ?_
      refine g_swap ?_
      refine g_mask [true, true, true, true, true, false, false] rfl ?_
      exact K _ _ _ _ _ _ _ _ _ _ _ _ _ _ _ _ _ _ _ _ _ _ _ _ _ _ _ _ _ _ _ _ _ _ _ _ _ _ _ (INV_walker hI H0)
    · exact absurd (H0.1) (M1)
    · exact absurd (H0.2) (M2b)
  · skip
    refine g_istore C [some (.ref bb), some (.ref (d 0)), some (.ref (q 0)), some (.ref o), some (.int (nI i)), some (.int 1), none] dL_law_402 (by decide) rfl rfl ?_
    refine g_aload_n C dL_law_404 rfl ?_
    refine g_aload_n C dL_law_405 rfl ?_
    refine g_iload C dL_law_406 rfl ?_
    refine g_iconst C 1 dL_law_408 (by decide +kernel) ?_
    refine g_iadd C (nI (i + 1)) dL_law_409 (nI_add i 1) ?_
    refine g_sld C hS (i + 1) rfl (by omega) dL_law_410 ?_
    refine g_aload_n C dL_law_411 rfl ?_
    refine g_iload C dL_law_412 rfl ?_
    refine g_iconst C 2 dL_law_414 (by decide +kernel) ?_
    refine g_iadd C (nI (i + 2)) dL_law_415 (nI_add i 2) ?_
    refine g_sld C hS (i + 2) rfl (by omega) dL_law_416 ?_
    refine g_aload_n C dL_law_417 rfl ?_
    refine g_iload C dL_law_418 rfl ?_
    refine g_iconst C 3 dL_law_420 (by decide +kernel) ?_
    refine g_iadd C (nI (i + 3)) dL_law_421 (nI_add i 3) ?_
    refine g_sld C hS (i + 3) rfl (by omega) dL_law_422 ?_
    refine g_swap ?_
    refine g_callVi C (wO cJ o ot ++ ((wCo cI a b d mg pt bd tk ho ri lo fv hd lf la ++ wSo cI cW a b r2 hp rl cn be bw wo) ++ wL cI cZ cG a r nc nw cx cy ch rm on wx wy dm sv mu qq)) (wM cI cZ q nc nw cx cy ch rm on wx wy dm sv fv hd lf la mg pt bd tk ho ri lo us gv bs ld qs mS mD th) [.int (xs (i + 1)), .int (xs (i + 2)), .int (xs (i + 3))] (t_X3_walker hI.2.1) rfl rfl (cwV 3 C.ts gL_law_X3_walker rfl rfl rfl (by decide +kernel) ⟨Nat.le_of_ble_eq_true rfl, Nat.le_of_ble_eq_true rfl⟩) rfl rfl rfl (Nat.le_of_ble_eq_true rfl) dL_law_423 (rm_0 hkn) (fun r2v w2 hp2 => ?_)
    obtain ⟨M0, hr2, rfl⟩ | ⟨M1, rfl⟩ | ⟨⟨M2, M2b⟩, rfl⟩ := hp2
    · exact absurd (M0.1) (H1)
    · skip
      refine g_istore C [some (.ref bb), some (.ref (d 0)), some (.ref (q 0)), some (.ref o), some (.int (nI i)), some (.int 1), some (.int r2v)] dL_law_426 (by decide) rfl rfl ?_
      refine g_aload_n C dL_law_428 rfl ?_
      refine g_callVi C (wO cJ o ot ++ ((wCo cI a b d mg pt bd tk ho ri lo fv hd lf la ++ wSo cI cW a b r2 hp rl cn be bw wo) ++ wL cI cZ cG a r nc nw cx cy ch rm on wx wy dm sv mu qq)) (wM cI cZ q nc nw cx cy ch rm on wx wy dm sv fv hd lf la mg pt bd tk ho ri lo us gv bs ld qs mS mD 1) [] t_X3_thrown rfl rfl (cwV 0 C.ts gL_law_X3_thrown rfl rfl rfl (by decide +kernel) ⟨Nat.le_of_ble_eq_true rfl, Nat.le_of_ble_eq_true rfl⟩) rfl rfl rfl (Nat.le_of_ble_eq_true rfl) dL_law_429 (rm_0 hkn) (fun r3v w3 hp3 => ?_)
      obtain ⟨rfl, rfl⟩ := hp3
      refine g_iload C dL_law_432 rfl ?_
      refine g_icmp_eq C 439 dL_law_434 (by decide) (fun _ => ?_) (fun c9 => absurd rfl c9)
      refine g_iload C dL_law_439 rfl ?_
      refine g_if_ne C 456 dL_law_441 (by decide) (fun _ => ?_) (fun c9 => absurd c9 (by decide))
      refine g_goto C 1332 dL_law_456 (by decide) ?_
      refine g_swap ?_
      refine g_mask [true, true, true, true, true, false, false] rfl ?_
      exact K _ _ _ _ _ _ _ _ _ _ _ _ _ _ _ _ _ _ _ _ _ _ _ _ _ _ _ _ _ _ _ _ _ _ _ _ _ _ _ hI
    · exact absurd (M2) (H1)
  · skip
    refine g_istore C [some (.ref bb), some (.ref (d 0)), some (.ref (q 0)), some (.ref o), some (.int (nI i)), some (.int 2), none] dL_law_402 (by decide) rfl rfl ?_
    refine g_aload_n C dL_law_404 rfl ?_
    refine g_aload_n C dL_law_405 rfl ?_
    refine g_iload C dL_law_406 rfl ?_
    refine g_iconst C 1 dL_law_408 (by decide +kernel) ?_
    refine g_iadd C (nI (i + 1)) dL_law_409 (nI_add i 1) ?_
    refine g_sld C hS (i + 1) rfl (by omega) dL_law_410 ?_
    refine g_aload_n C dL_law_411 rfl ?_
    refine g_iload C dL_law_412 rfl ?_
    refine g_iconst C 2 dL_law_414 (by decide +kernel) ?_
    refine g_iadd C (nI (i + 2)) dL_law_415 (nI_add i 2) ?_
    refine g_sld C hS (i + 2) rfl (by omega) dL_law_416 ?_
    refine g_aload_n C dL_law_417 rfl ?_
    refine g_iload C dL_law_418 rfl ?_
    refine g_iconst C 3 dL_law_420 (by decide +kernel) ?_
    refine g_iadd C (nI (i + 3)) dL_law_421 (nI_add i 3) ?_
    refine g_sld C hS (i + 3) rfl (by omega) dL_law_422 ?_
    refine g_swap ?_
    refine g_callVi C (wO cJ o ot ++ ((wCo cI a b d mg pt bd tk ho ri lo fv hd lf la ++ wSo cI cW a b r2 hp rl cn be bw wo) ++ wL cI cZ cG a r nc nw cx cy ch rm on wx wy dm sv mu qq)) (wM cI cZ q nc nw cx cy ch rm on wx wy dm sv fv hd lf la mg pt bd tk ho ri lo us gv bs ld qs mS mD th) [.int (xs (i + 1)), .int (xs (i + 2)), .int (xs (i + 3))] (t_X3_walker hI.2.1) rfl rfl (cwV 3 C.ts gL_law_X3_walker rfl rfl rfl (by decide +kernel) ⟨Nat.le_of_ble_eq_true rfl, Nat.le_of_ble_eq_true rfl⟩) rfl rfl rfl (Nat.le_of_ble_eq_true rfl) dL_law_423 (rm_0 hkn) (fun r2v w2 hp2 => ?_)
    obtain ⟨M0, hr2, rfl⟩ | ⟨M1, rfl⟩ | ⟨⟨M2, M2b⟩, rfl⟩ := hp2
    · exact absurd (M0.2) (H2.2)
    · exact absurd (H2.1) (M1)
    · skip
      refine g_istore C [some (.ref bb), some (.ref (d 0)), some (.ref (q 0)), some (.ref o), some (.int (nI i)), some (.int 2), some (.int r2v)] dL_law_426 (by decide) rfl rfl ?_
      refine g_aload_n C dL_law_428 rfl ?_
      refine g_callVi C (wO cJ o ot ++ ((wCo cI a b d mg pt bd tk ho ri lo fv hd lf la ++ wSo cI cW a b r2 hp rl cn be bw wo) ++ wL cI cZ cG a r nc nw cx cy ch rm on wx wy dm sv mu qq)) (wM cI cZ q nc nw cx cy ch rm on wx wy dm sv fv hd lf la mg pt bd tk ho ri lo us gv bs ld qs mS mD 2) [] t_X3_thrown rfl rfl (cwV 0 C.ts gL_law_X3_thrown rfl rfl rfl (by decide +kernel) ⟨Nat.le_of_ble_eq_true rfl, Nat.le_of_ble_eq_true rfl⟩) rfl rfl rfl (Nat.le_of_ble_eq_true rfl) dL_law_429 (rm_0 hkn) (fun r3v w3 hp3 => ?_)
      obtain ⟨rfl, rfl⟩ := hp3
      refine g_iload C dL_law_432 rfl ?_
      refine g_icmp_eq C 439 dL_law_434 (by decide) (fun _ => ?_) (fun c9 => absurd rfl c9)
      refine g_iload C dL_law_439 rfl ?_
      refine g_if_ne C 456 dL_law_441 (by decide) (fun _ => ?_) (fun c9 => absurd c9 (by decide))
      refine g_goto C 1332 dL_law_456 (by decide) ?_
      refine g_swap ?_
      refine g_mask [true, true, true, true, true, false, false] rfl ?_
      exact K _ _ _ _ _ _ _ _ _ _ _ _ _ _ _ _ _ _ _ _ _ _ _ _ _ _ _ _ _ _ _ _ _ _ _ _ _ _ _ hI
set_option maxHeartbeats 1000000 in
set_option maxRecDepth 100000 in
theorem law_move (C : CX p s m args meth c cL_law RL wsL_law D (T5 cI cZ cJ cG cW) A 7) (hl0 : l.stackTraces = false) (hX : XX A s s.heap) (hS : SCR A s bb L xs) (hi : i + 4 < L) (hkn : k + 10 ≤ 669564 ∧ n + 60 ≤ 7087412)
    (K : LK p l e s m args below meth c D A Q cI cZ cJ cG cW a b d q r r2 o (k + 10) (n + 60) [some (.ref bb), some (.ref (d 0)), some (.ref (q 0)), some (.ref o), some (.int (nI i)), none, none] 1332) : LK p l e s m args below meth c D A Q cI cZ cJ cG cW a b d q r r2 o k n [some (.ref bb), some (.ref (d 0)), some (.ref (q 0)), some (.ref o), some (.int (nI i)), none, none] 459 := by
  intro nc nw cx cy ch rm on wx wy dm sv fv hd lf la mg pt bd tk ho ri lo hp rl cn be bw wo mu qq ot us gv bs ld qs mS mD th hI
  refine g_aload_n C dL_law_459 rfl ?_
  refine g_aload_n C dL_law_460 rfl ?_
  refine g_iload C dL_law_461 rfl ?_
  refine g_iconst C 1 dL_law_463 (by decide +kernel) ?_
  refine g_iadd C (nI (i + 1)) dL_law_464 (nI_add i 1) ?_
  refine g_sld C hS (i + 1) rfl (by omega) dL_law_465 ?_
  refine g_aload_n C dL_law_466 rfl ?_
  refine g_iload C dL_law_467 rfl ?_
  refine g_iconst C 2 dL_law_469 (by decide +kernel) ?_
  refine g_iadd C (nI (i + 2)) dL_law_470 (nI_add i 2) ?_
  refine g_sld C hS (i + 2) rfl (by omega) dL_law_471 ?_
  refine g_aload_n C dL_law_472 rfl ?_
  refine g_iload C dL_law_473 rfl ?_
  refine g_iconst C 3 dL_law_475 (by decide +kernel) ?_
  refine g_iadd C (nI (i + 3)) dL_law_476 (nI_add i 3) ?_
  refine g_sld C hS (i + 3) rfl (by omega) dL_law_477 ?_
  refine gx_callH C hX (wM cI cZ q nc nw cx cy ch rm on wx wy dm sv fv hd lf la mg pt bd tk ho ri lo us gv bs ld qs mS mD th) (wO cJ o ot ++ ((wCo cI a b d mg pt bd tk ho ri lo fv hd lf la ++ wSo cI cW a b r2 hp rl cn be bw wo) ++ wL cI cZ cG a r nc nw cx cy ch rm on wx wy dm sv mu qq)) [.ref (d 0), .int (xs (i + 1)), .int (xs (i + 2)), .int (xs (i + 3))] (t_L_move hl0 hI.2.1) (vx_cwSW 4 C.ts gL_law_L_move rfl rfl rfl (by decide +kernel) ⟨Nat.le_of_ble_eq_true rfl, Nat.le_of_ble_eq_true rfl⟩) rfl rfl rfl (Nat.le_of_ble_eq_true rfl) dL_law_478 (rm_ok hkn (by decide) (by decide)) (fun r1v w1 hp1 => ?_)
  refine g_widen (k' := k + 10) (n' := n + 60) (by omega) (by omega) ?_
  obtain ⟨rfl, H0, rfl⟩ | ⟨rfl, H1, rfl⟩ | ⟨rfl, H2, rfl⟩ := hp1
  · skip
    refine g_istore C [some (.ref bb), some (.ref (d 0)), some (.ref (q 0)), some (.ref o), some (.int (nI i)), some (.int 0), none] dL_law_481 (by decide) rfl rfl ?_
    refine g_aload_n C dL_law_483 rfl ?_
    refine g_aload_n C dL_law_484 rfl ?_
    refine g_iload C dL_law_485 rfl ?_
    refine g_iconst C 1 dL_law_487 (by decide +kernel) ?_
    refine g_iadd C (nI (i + 1)) dL_law_488 (nI_add i 1) ?_
    refine g_sld C hS (i + 1) rfl (by omega) dL_law_489 ?_
    refine g_aload_n C dL_law_490 rfl ?_
    refine g_iload C dL_law_491 rfl ?_
    refine g_iconst C 2 dL_law_493 (by decide +kernel) ?_
    refine g_iadd C (nI (i + 2)) dL_law_494 (nI_add i 2) ?_
    refine g_sld C hS (i + 2) rfl (by omega) dL_law_495 ?_
    refine g_aload_n C dL_law_496 rfl ?_
    refine g_iload C dL_law_497 rfl ?_
    refine g_iconst C 3 dL_law_499 (by decide +kernel) ?_
    refine g_iadd C (nI (i + 3)) dL_law_500 (nI_add i 3) ?_
    refine g_sld C hS (i + 3) rfl (by omega) dL_law_501 ?_
    refine g_swap ?_
    refine g_callVv C (wO cJ o ot ++ ((wCo cI a b d mg pt bd tk ho ri lo fv hd lf la ++ wSo cI cW a b r2 hp rl cn be bw wo) ++ wL cI cZ cG a r nc nw cx cy ch rm on (upd wx (xs (i + 1)).toNatClampNeg (mvx wx (xs (i + 1)) (xs (i + 2))).toInt32) (upd wy (xs (i + 1)).toNatClampNeg (mvx wy (xs (i + 1)) (xs (i + 3))).toInt32) dm sv mu qq)) (wM cI cZ q nc nw cx cy ch rm on wx wy dm sv fv hd lf la mg pt bd tk ho ri lo us gv bs ld qs mS mD th) [.int (xs (i + 1)), .int (xs (i + 2)), .int (xs (i + 3))] (t_X3_move hI.2.1) rfl rfl (cwV 3 C.ts gL_law_X3_move rfl rfl rfl (by decide +kernel) ⟨Nat.le_of_ble_eq_true rfl, Nat.le_of_ble_eq_true rfl⟩) rfl rfl rfl (Nat.le_of_ble_eq_true rfl) dL_law_502 (rm_0 hkn) (fun w2 t2 hp2 => ?_)
    obtain ⟨M0, rfl, _⟩ | ⟨M1, rfl, _⟩ | ⟨M2, M2b, rfl, _⟩ := hp2
    · skip
      refine g_aload_n C dL_law_505 rfl ?_
      refine g_callVi C (wO cJ o ot ++ ((wCo cI a b d mg pt bd tk ho ri lo fv hd lf la ++ wSo cI cW a b r2 hp rl cn be bw wo) ++ wL cI cZ cG a r nc nw cx cy ch rm on (upd wx (xs (i + 1)).toNatClampNeg (mvx wx (xs (i + 1)) (xs (i + 2))).toInt32) (upd wy (xs (i + 1)).toNatClampNeg (mvx wy (xs (i + 1)) (xs (i + 3))).toInt32) dm sv mu qq)) (wM cI cZ q nc nw cx cy ch rm on (upd wx (xs (i + 1)).toNatClampNeg (mvx wx (xs (i + 1)) (xs (i + 2))).toInt32) (upd wy (xs (i + 1)).toNatClampNeg (mvx wy (xs (i + 1)) (xs (i + 3))).toInt32) dm sv fv hd lf la mg pt bd tk ho ri lo us gv bs ld qs mS mD 0) [] t_X3_thrown rfl rfl (cwV 0 C.ts gL_law_X3_thrown rfl rfl rfl (by decide +kernel) ⟨Nat.le_of_ble_eq_true rfl, Nat.le_of_ble_eq_true rfl⟩) rfl rfl rfl (Nat.le_of_ble_eq_true rfl) dL_law_506 (rm_0 hkn) (fun r3v w3 hp3 => ?_)
      obtain ⟨rfl, rfl⟩ := hp3
      refine g_iload C dL_law_509 rfl ?_
      refine g_icmp_eq C 516 dL_law_511 (by decide) (fun _ => ?_) (fun c9 => absurd rfl c9)
      refine g_goto C 1332 dL_law_516 (by decide) ?_
      refine g_swap ?_
      refine g_mask [true, true, true, true, true, false, false] rfl ?_
      exact K _ _ _ _ _ _ _ _ _ _ _ _ _ _ _ _ _ _ _ _ _ _ _ _ _ _ _ _ _ _ _ _ _ _ _ _ _ _ _ (INV_move hI H0.2.1 H0.2.2)
    · exact absurd (H0.1) (M1)
    · exact absurd (H0.2) (M2b)
  · skip
    refine g_istore C [some (.ref bb), some (.ref (d 0)), some (.ref (q 0)), some (.ref o), some (.int (nI i)), some (.int 1), none] dL_law_481 (by decide) rfl rfl ?_
    refine g_aload_n C dL_law_483 rfl ?_
    refine g_aload_n C dL_law_484 rfl ?_
    refine g_iload C dL_law_485 rfl ?_
    refine g_iconst C 1 dL_law_487 (by decide +kernel) ?_
    refine g_iadd C (nI (i + 1)) dL_law_488 (nI_add i 1) ?_
    refine g_sld C hS (i + 1) rfl (by omega) dL_law_489 ?_
    refine g_aload_n C dL_law_490 rfl ?_
    refine g_iload C dL_law_491 rfl ?_
    refine g_iconst C 2 dL_law_493 (by decide +kernel) ?_
    refine g_iadd C (nI (i + 2)) dL_law_494 (nI_add i 2) ?_
    refine g_sld C hS (i + 2) rfl (by omega) dL_law_495 ?_
    refine g_aload_n C dL_law_496 rfl ?_
    refine g_iload C dL_law_497 rfl ?_
    refine g_iconst C 3 dL_law_499 (by decide +kernel) ?_
    refine g_iadd C (nI (i + 3)) dL_law_500 (nI_add i 3) ?_
    refine g_sld C hS (i + 3) rfl (by omega) dL_law_501 ?_
    refine g_swap ?_
    refine g_callVv C (wO cJ o ot ++ ((wCo cI a b d mg pt bd tk ho ri lo fv hd lf la ++ wSo cI cW a b r2 hp rl cn be bw wo) ++ wL cI cZ cG a r nc nw cx cy ch rm on wx wy dm sv mu qq)) (wM cI cZ q nc nw cx cy ch rm on wx wy dm sv fv hd lf la mg pt bd tk ho ri lo us gv bs ld qs mS mD th) [.int (xs (i + 1)), .int (xs (i + 2)), .int (xs (i + 3))] (t_X3_move hI.2.1) rfl rfl (cwV 3 C.ts gL_law_X3_move rfl rfl rfl (by decide +kernel) ⟨Nat.le_of_ble_eq_true rfl, Nat.le_of_ble_eq_true rfl⟩) rfl rfl rfl (Nat.le_of_ble_eq_true rfl) dL_law_502 (rm_0 hkn) (fun w2 t2 hp2 => ?_)
    obtain ⟨M0, rfl, _⟩ | ⟨M1, rfl, _⟩ | ⟨M2, M2b, rfl, _⟩ := hp2
    · exact absurd (M0.1) (H1)
    · skip
      refine g_aload_n C dL_law_505 rfl ?_
      refine g_callVi C (wO cJ o ot ++ ((wCo cI a b d mg pt bd tk ho ri lo fv hd lf la ++ wSo cI cW a b r2 hp rl cn be bw wo) ++ wL cI cZ cG a r nc nw cx cy ch rm on wx wy dm sv mu qq)) (wM cI cZ q nc nw cx cy ch rm on wx wy dm sv fv hd lf la mg pt bd tk ho ri lo us gv bs ld qs mS mD 1) [] t_X3_thrown rfl rfl (cwV 0 C.ts gL_law_X3_thrown rfl rfl rfl (by decide +kernel) ⟨Nat.le_of_ble_eq_true rfl, Nat.le_of_ble_eq_true rfl⟩) rfl rfl rfl (Nat.le_of_ble_eq_true rfl) dL_law_506 (rm_0 hkn) (fun r3v w3 hp3 => ?_)
      obtain ⟨rfl, rfl⟩ := hp3
      refine g_iload C dL_law_509 rfl ?_
      refine g_icmp_eq C 516 dL_law_511 (by decide) (fun _ => ?_) (fun c9 => absurd rfl c9)
      refine g_goto C 1332 dL_law_516 (by decide) ?_
      refine g_swap ?_
      refine g_mask [true, true, true, true, true, false, false] rfl ?_
      exact K _ _ _ _ _ _ _ _ _ _ _ _ _ _ _ _ _ _ _ _ _ _ _ _ _ _ _ _ _ _ _ _ _ _ _ _ _ _ _ hI
    · exact absurd (M2) (H1)
  · skip
    refine g_istore C [some (.ref bb), some (.ref (d 0)), some (.ref (q 0)), some (.ref o), some (.int (nI i)), some (.int 2), none] dL_law_481 (by decide) rfl rfl ?_
    refine g_aload_n C dL_law_483 rfl ?_
    refine g_aload_n C dL_law_484 rfl ?_
    refine g_iload C dL_law_485 rfl ?_
    refine g_iconst C 1 dL_law_487 (by decide +kernel) ?_
    refine g_iadd C (nI (i + 1)) dL_law_488 (nI_add i 1) ?_
    refine g_sld C hS (i + 1) rfl (by omega) dL_law_489 ?_
    refine g_aload_n C dL_law_490 rfl ?_
    refine g_iload C dL_law_491 rfl ?_
    refine g_iconst C 2 dL_law_493 (by decide +kernel) ?_
    refine g_iadd C (nI (i + 2)) dL_law_494 (nI_add i 2) ?_
    refine g_sld C hS (i + 2) rfl (by omega) dL_law_495 ?_
    refine g_aload_n C dL_law_496 rfl ?_
    refine g_iload C dL_law_497 rfl ?_
    refine g_iconst C 3 dL_law_499 (by decide +kernel) ?_
    refine g_iadd C (nI (i + 3)) dL_law_500 (nI_add i 3) ?_
    refine g_sld C hS (i + 3) rfl (by omega) dL_law_501 ?_
    refine g_swap ?_
    refine g_callVv C (wO cJ o ot ++ ((wCo cI a b d mg pt bd tk ho ri lo fv hd lf la ++ wSo cI cW a b r2 hp rl cn be bw wo) ++ wL cI cZ cG a r nc nw cx cy ch rm on wx wy dm sv mu qq)) (wM cI cZ q nc nw cx cy ch rm on wx wy dm sv fv hd lf la mg pt bd tk ho ri lo us gv bs ld qs mS mD th) [.int (xs (i + 1)), .int (xs (i + 2)), .int (xs (i + 3))] (t_X3_move hI.2.1) rfl rfl (cwV 3 C.ts gL_law_X3_move rfl rfl rfl (by decide +kernel) ⟨Nat.le_of_ble_eq_true rfl, Nat.le_of_ble_eq_true rfl⟩) rfl rfl rfl (Nat.le_of_ble_eq_true rfl) dL_law_502 (rm_0 hkn) (fun w2 t2 hp2 => ?_)
    obtain ⟨M0, rfl, _⟩ | ⟨M1, rfl, _⟩ | ⟨M2, M2b, rfl, _⟩ := hp2
    · exact absurd (M0.2) (H2.2)
    · exact absurd (H2.1) (M1)
    · skip
      refine g_aload_n C dL_law_505 rfl ?_
      refine g_callVi C (wO cJ o ot ++ ((wCo cI a b d mg pt bd tk ho ri lo fv hd lf la ++ wSo cI cW a b r2 hp rl cn be bw wo) ++ wL cI cZ cG a r nc nw cx cy ch rm on wx wy dm sv mu qq)) (wM cI cZ q nc nw cx cy ch rm on wx wy dm sv fv hd lf la mg pt bd tk ho ri lo us gv bs ld qs mS mD 2) [] t_X3_thrown rfl rfl (cwV 0 C.ts gL_law_X3_thrown rfl rfl rfl (by decide +kernel) ⟨Nat.le_of_ble_eq_true rfl, Nat.le_of_ble_eq_true rfl⟩) rfl rfl rfl (Nat.le_of_ble_eq_true rfl) dL_law_506 (rm_0 hkn) (fun r3v w3 hp3 => ?_)
      obtain ⟨rfl, rfl⟩ := hp3
      refine g_iload C dL_law_509 rfl ?_
      refine g_icmp_eq C 516 dL_law_511 (by decide) (fun _ => ?_) (fun c9 => absurd rfl c9)
      refine g_goto C 1332 dL_law_516 (by decide) ?_
      refine g_swap ?_
      refine g_mask [true, true, true, true, true, false, false] rfl ?_
      exact K _ _ _ _ _ _ _ _ _ _ _ _ _ _ _ _ _ _ _ _ _ _ _ _ _ _ _ _ _ _ _ _ _ _ _ _ _ _ _ hI
end LAW
