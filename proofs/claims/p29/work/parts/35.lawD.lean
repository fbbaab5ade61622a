/-! the law's acts -/
set_option maxHeartbeats 8000000 in
set_option maxRecDepth 100000 in
theorem acts_k0 {l : Launch} (hl0 : l.stackTraces = false) {D : va_G} {cI cZ cJ cG cW : ClassId} {u : Nat → Nat} {nc nw : Nat} {tk ho ri lo mg pt bd : Int32} {cx cy ch rm on wx wy dm sv fv hd lf la : Nat → Int32} {a b d r2 : Nat → Nat} {hp rl cn be : Nat → Int32} {bw : Int32} {wo : Nat → Nat → Int32} {r : Nat → Nat} {mu : Nat → Int32} {qq : Nat → Nat → Int32} {p1 p2 : Int32} {p_ : Program} {e_ : Env} {s_ : State} {m_ : MethodId} {as_ : Array Value} {bl_ : List Frame} {me_ : Method} {co_ : Code} (C : CX p_ s_ m_ as_ me_ co_ cL_acts RL wsL_acts D (T5 cI cZ cJ cG cW) (va_A (wA cI u nc nw tk ho ri lo mg pt bd cx cy ch rm on wx wy dm sv fv hd lf la ++ ((wCo cI a b d mg pt bd tk ho ri lo fv hd lf la ++ wSo cI cW a b r2 hp rl cn be bw wo) ++ wL cI cZ cG a r nc nw cx cy ch rm on wx wy dm sv mu qq)) s_.heap.size) 16) (hret : me_.sig.returnType = some .boolean) (hX : XX (va_A (wA cI u nc nw tk ho ri lo mg pt bd cx cy ch rm on wx wy dm sv fv hd lf la ++ ((wCo cI a b d mg pt bd tk ho ri lo fv hd lf la ++ wSo cI cW a b r2 hp rl cn be bw wo) ++ wL cI cZ cG a r nc nw cx cy ch rm on wx wy dm sv mu qq)) s_.heap.size) s_ s_.heap) (hJ : JI nc nw cx cy ch rm on wx wy dm sv hd) :
    G p_ l e_ { frames := 12, cells := 20, slots := 120, locals := 400 } s_ m_ as_ bl_ me_ co_ D (va_A (wA cI u nc nw tk ho ri lo mg pt bd cx cy ch rm on wx wy dm sv fv hd lf la ++ ((wCo cI a b d mg pt bd tk ho ri lo fv hd lf la ++ wSo cI cW a b r2 hp rl cn be bw wo) ++ wL cI cZ cG a r nc nw cx cy ch rm on wx wy dm sv mu qq)) s_.heap.size) 16 (QXI bl_ (fun rv wv => rv = 1 ∧ ST cI cZ cG cW u a b d r r2 wv) (fun _ => False) D (T5 cI cZ cJ cG cW) (wA cI u nc nw tk ho ri lo mg pt bd cx cy ch rm on wx wy dm sv fv hd lf la ++ ((wCo cI a b d mg pt bd tk ho ri lo fv hd lf la ++ wSo cI cW a b r2 hp rl cn be bw wo) ++ wL cI cZ cG a r nc nw cx cy ch rm on wx wy dm sv mu qq)) as_ s_ 20 120) 0 0 (wA cI u nc nw tk ho ri lo mg pt bd cx cy ch rm on wx wy dm sv fv hd lf la ++ ((wCo cI a b d mg pt bd tk ho ri lo fv hd lf la ++ wSo cI cW a b r2 hp rl cn be bw wo) ++ wL cI cZ cG a r nc nw cx cy ch rm on wx wy dm sv mu qq)) [some (.ref (d 0)), some (.int p1), some (.int p2), some (.ref (u 0)), some (.ref (u 1)), some (.ref (u 2)), none, none, none, none, none, none, none, none, none, none] 4 [] := by
  have n4 := hJ.n4
  have w4 := hJ.w4
  refine g_iload_n C dL_acts_4 rfl ?_
  refine g_callSi C (wA cI u nc nw tk ho ri lo mg pt bd cx cy ch rm on wx wy dm sv fv hd lf la ++ ((wCo cI a b d mg pt bd tk ho ri lo fv hd lf la ++ wSo cI cW a b r2 hp rl cn be bw wo) ++ wL cI cZ cG a r nc nw cx cy ch rm on wx wy dm sv mu qq)) [] [.int p2] t_L_place (va_cwS 1 C.ts gL_acts_L_place rfl rfl rfl (by decide +kernel) ⟨Nat.le_of_ble_eq_true rfl, Nat.le_of_ble_eq_true rfl⟩) rfl (List.append_nil _).symm rfl (Nat.le_of_ble_eq_true rfl) dL_acts_5 ⟨Nat.le_of_ble_eq_true rfl, Nat.le_of_ble_eq_true rfl⟩ (fun rv1 wv1 hp1 => ?_)
  obtain ⟨hs1, rfl⟩ := hp1
  refine g_w (ws' := (wA cI u nc nw tk ho ri lo mg pt bd cx cy ch rm on wx wy dm sv fv hd lf la ++ ((wCo cI a b d mg pt bd tk ho ri lo fv hd lf la ++ wSo cI cW a b r2 hp rl cn be bw wo) ++ wL cI cZ cG a r nc nw cx cy ch rm on wx wy dm sv mu qq))) (List.append_nil _) ?_
  refine g_istore C [some (.ref (d 0)), some (.int p1), some (.int p2), some (.ref (u 0)), some (.ref (u 1)), some (.ref (u 2)), some (.int rv1), none, none, none, none, none, none, none, none, none] dL_acts_8 (by decide) rfl rfl ?_
  refine g_iload_n C dL_acts_10 rfl ?_
  refine g_iconst C 5 dL_acts_11 (by decide +kernel) ?_
  refine g_ishr C (p2 >>> (5 &&& 31)) dL_acts_12 rfl ?_
  refine g_callSi C (wA cI u nc nw tk ho ri lo mg pt bd cx cy ch rm on wx wy dm sv fv hd lf la ++ ((wCo cI a b d mg pt bd tk ho ri lo fv hd lf la ++ wSo cI cW a b r2 hp rl cn be bw wo) ++ wL cI cZ cG a r nc nw cx cy ch rm on wx wy dm sv mu qq)) [] [.int (p2 >>> (5 &&& 31))] t_L_place (va_cwS 1 C.ts gL_acts_L_place rfl rfl rfl (by decide +kernel) ⟨Nat.le_of_ble_eq_true rfl, Nat.le_of_ble_eq_true rfl⟩) rfl (List.append_nil _).symm rfl (Nat.le_of_ble_eq_true rfl) dL_acts_13 ⟨Nat.le_of_ble_eq_true rfl, Nat.le_of_ble_eq_true rfl⟩ (fun rv2 wv2 hp2 => ?_)
  obtain ⟨hs2, rfl⟩ := hp2
  refine g_w (ws' := (wA cI u nc nw tk ho ri lo mg pt bd cx cy ch rm on wx wy dm sv fv hd lf la ++ ((wCo cI a b d mg pt bd tk ho ri lo fv hd lf la ++ wSo cI cW a b r2 hp rl cn be bw wo) ++ wL cI cZ cG a r nc nw cx cy ch rm on wx wy dm sv mu qq))) (List.append_nil _) ?_
  refine g_istore C [some (.ref (d 0)), some (.int p1), some (.int p2), some (.ref (u 0)), some (.ref (u 1)), some (.ref (u 2)), some (.int rv1), some (.int rv2), none, none, none, none, none, none, none, none] dL_acts_16 (by decide) rfl rfl ?_
  refine g_iload_n C dL_acts_18 rfl ?_
  refine g_bipush C 7 dL_acts_19 (by decide +kernel) ?_
  refine g_ishr C (p2 >>> (7 &&& 31)) dL_acts_21 rfl ?_
  refine g_bipush C 40 dL_acts_22 (by decide +kernel) ?_
  refine g_callSi C (wA cI u nc nw tk ho ri lo mg pt bd cx cy ch rm on wx wy dm sv fv hd lf la ++ ((wCo cI a b d mg pt bd tk ho ri lo fv hd lf la ++ wSo cI cW a b r2 hp rl cn be bw wo) ++ wL cI cZ cG a r nc nw cx cy ch rm on wx wy dm sv mu qq)) [] [.int (p2 >>> (7 &&& 31)), .int 40] (t_L_some (by decide)) (va_cwS 2 C.ts gL_acts_L_some rfl rfl rfl (by decide +kernel) ⟨Nat.le_of_ble_eq_true rfl, Nat.le_of_ble_eq_true rfl⟩) rfl (List.append_nil _).symm rfl (Nat.le_of_ble_eq_true rfl) dL_acts_24 ⟨Nat.le_of_ble_eq_true rfl, Nat.le_of_ble_eq_true rfl⟩ (fun rv3 wv3 hp3 => ?_)
  obtain ⟨hs3, rfl⟩ := hp3
  have hs3 : tB 0 39 rv3 := some_tB hs3 (by decide)
  refine g_w (ws' := (wA cI u nc nw tk ho ri lo mg pt bd cx cy ch rm on wx wy dm sv fv hd lf la ++ ((wCo cI a b d mg pt bd tk ho ri lo fv hd lf la ++ wSo cI cW a b r2 hp rl cn be bw wo) ++ wL cI cZ cG a r nc nw cx cy ch rm on wx wy dm sv mu qq))) (List.append_nil _) ?_
  refine g_join (σ := Int32) (fun vc : Int32 => tB 0 3 vc) (fun vc : Int32 => (wA cI u nc nw tk ho ri lo mg pt bd cx cy ch rm on wx wy dm sv fv hd lf la ++ ((wCo cI a b d mg pt bd tk ho ri lo fv hd lf la ++ wSo cI cW a b r2 hp rl cn be bw wo) ++ wL cI cZ cG a r nc nw cx cy ch rm on wx wy dm sv mu qq))) (fun vc : Int32 => [some (.ref (d 0)), some (.int p1), some (.int p2), some (.ref (u 0)), some (.ref (u 1)), some (.ref (u 2)), some (.int rv1), some (.int rv2), none, none, none, none, none, none, none, none]) (fun vc : Int32 => [.int vc]) 42 (0) (0) (fun vc hvc => ?_) (fun J42 => ?_)
  · skip
    refine g_istore C [some (.ref (d 0)), some (.int p1), some (.int p2), some (.ref (u 0)), some (.ref (u 1)), some (.ref (u 2)), some (.int rv1), some (.int rv2), some (.int vc), none, none, none, none, none, none, none] dL_acts_42 (by decide) rfl rfl ?_
    refine g_iload_n C dL_acts_44 rfl ?_
    refine g_iconst C 4 dL_acts_45 (by decide +kernel) ?_
    refine g_ishr C (p2 >>> (4 &&& 31)) dL_acts_46 rfl ?_
    refine g_bipush C 30 dL_acts_47 (by decide +kernel) ?_
    refine g_callSi C (wA cI u nc nw tk ho ri lo mg pt bd cx cy ch rm on wx wy dm sv fv hd lf la ++ ((wCo cI a b d mg pt bd tk ho ri lo fv hd lf la ++ wSo cI cW a b r2 hp rl cn be bw wo) ++ wL cI cZ cG a r nc nw cx cy ch rm on wx wy dm sv mu qq)) [] [.int (p2 >>> (4 &&& 31)), .int 30] (t_L_some (by decide)) (va_cwS 2 C.ts gL_acts_L_some rfl rfl rfl (by decide +kernel) ⟨Nat.le_of_ble_eq_true rfl, Nat.le_of_ble_eq_true rfl⟩) rfl (List.append_nil _).symm rfl (Nat.le_of_ble_eq_true rfl) dL_acts_49 ⟨Nat.le_of_ble_eq_true rfl, Nat.le_of_ble_eq_true rfl⟩ (fun rv4 wv4 hp4 => ?_)
    obtain ⟨hs4, rfl⟩ := hp4
    have hs4 : tB 0 29 rv4 := some_tB hs4 (by decide)
    refine g_w (ws' := (wA cI u nc nw tk ho ri lo mg pt bd cx cy ch rm on wx wy dm sv fv hd lf la ++ ((wCo cI a b d mg pt bd tk ho ri lo fv hd lf la ++ wSo cI cW a b r2 hp rl cn be bw wo) ++ wL cI cZ cG a r nc nw cx cy ch rm on wx wy dm sv mu qq))) (List.append_nil _) ?_
    refine g_join (σ := Int32) (fun vr : Int32 => tB 1 41 vr) (fun vr : Int32 => (wA cI u nc nw tk ho ri lo mg pt bd cx cy ch rm on wx wy dm sv fv hd lf la ++ ((wCo cI a b d mg pt bd tk ho ri lo fv hd lf la ++ wSo cI cW a b r2 hp rl cn be bw wo) ++ wL cI cZ cG a r nc nw cx cy ch rm on wx wy dm sv mu qq))) (fun vr : Int32 => [some (.ref (d 0)), some (.int p1), some (.int p2), some (.ref (u 0)), some (.ref (u 1)), some (.ref (u 2)), some (.int rv1), some (.int rv2), some (.int vc), none, none, none, none, none, none, none]) (fun vr : Int32 => [.int vr]) 70 (0) (0) (fun vr hvr => ?_) (fun J70 => ?_)
    · skip
      refine g_istore C [some (.ref (d 0)), some (.int p1), some (.int p2), some (.ref (u 0)), some (.ref (u 1)), some (.ref (u 2)), some (.int rv1), some (.int rv2), some (.int vc), some (.int vr), none, none, none, none, none, none] dL_acts_70 (by decide) rfl rfl ?_
      refine g_join (σ := Int32) (fun due : Int32 => (due = -101 ∧ ¬ inC rv1 rv2 vc vr) ∨ (due = nI nc ∧ inC rv1 rv2 vc vr)) (fun due : Int32 => (wA cI u nc nw tk ho ri lo mg pt bd cx cy ch rm on wx wy dm sv fv hd lf la ++ ((wCo cI a b d mg pt bd tk ho ri lo fv hd lf la ++ wSo cI cW a b r2 hp rl cn be bw wo) ++ wL cI cZ cG a r nc nw cx cy ch rm on wx wy dm sv mu qq))) (fun due : Int32 => [some (.ref (d 0)), some (.int p1), some (.int p2), some (.ref (u 0)), some (.ref (u 1)), some (.ref (u 2)), some (.int rv1), some (.int rv2), some (.int vc), some (.int vr), none, none, none, none, none, none]) (fun due : Int32 => [.int due]) 107 (0) (0) (fun due hdue => ?_) (fun J107 => ?_)
      · skip
        rcases hdue with ⟨rfl, hno⟩ | ⟨rfl, hyes⟩
        · skip
          refine g_istore C [some (.ref (d 0)), some (.int p1), some (.int p2), some (.ref (u 0)), some (.ref (u 1)), some (.ref (u 2)), some (.int rv1), some (.int rv2), some (.int vc), some (.int vr), some (.int ((-101))), none, none, none, none, none] dL_acts_107 (by decide) rfl rfl ?_
          refine g_iload C dL_acts_109 rfl ?_
          refine g_iconst C 4 dL_acts_111 (by decide +kernel) ?_
          refine g_icmp_ne C 117 dL_acts_112 (by decide) (fun _ => ?_) (fun c9 => absurd c9 (by decide))
          refine g_iload C dL_acts_117 rfl ?_
          refine g_if_lt C 174 dL_acts_119 (by decide) (fun _ => ?_) (fun c9 => absurd (by decide) c9)
          refine g_aload_n C dL_acts_174 rfl ?_
          refine g_iload C dL_acts_175 rfl ?_
          refine g_iload C dL_acts_177 rfl ?_
          refine g_iload C dL_acts_179 rfl ?_
          refine g_iload C dL_acts_181 rfl ?_
          refine gx_callH C hX (wA cI u nc nw tk ho ri lo mg pt bd cx cy ch rm on wx wy dm sv fv hd lf la) ((wCo cI a b d mg pt bd tk ho ri lo fv hd lf la ++ wSo cI cW a b r2 hp rl cn be bw wo) ++ wL cI cZ cG a r nc nw cx cy ch rm on wx wy dm sv mu qq) [.ref (d 0), .int rv1, .int rv2, .int vc, .int vr] (t_L_built hl0 (by omega)) (vx_cwSW 5 C.ts gL_acts_L_built rfl rfl rfl (by decide +kernel) ⟨Nat.le_of_ble_eq_true rfl, Nat.le_of_ble_eq_true rfl⟩) rfl rfl rfl (Nat.le_of_ble_eq_true rfl) dL_acts_183 ⟨Nat.le_of_ble_eq_true rfl, Nat.le_of_ble_eq_true rfl⟩ (fun rv5 wv5 hp5 => ?_)
          obtain ⟨rfl, rfl⟩ : rv5 = -101 ∧ wv5 = ((wCo cI a b d mg pt bd tk ho ri lo fv hd lf la ++ wSo cI cW a b r2 hp rl cn be bw wo) ++ wL cI cZ cG a r nc nw cx cy ch rm on wx wy dm sv mu qq) := by
            rcases hp5 with ⟨_, hb, _⟩ | ⟨h1, _, h2⟩ | ⟨_, hb, _⟩
            · exact absurd hb.1 hno
            · exact ⟨h1, h2⟩
            · exact absurd hb.1 hno
          refine g_iload C dL_acts_186 rfl ?_
          refine g_icmp_ne C 195 dL_acts_188 (by decide) (fun c9 => absurd rfl c9) (fun _ => ?_)
          refine g_iconst C 1 dL_acts_191 (by decide +kernel) ?_
          refine g_goto C 196 dL_acts_192 (by decide) ?_
          exact gx_I (g_zret C hret (by decide +kernel) dL_acts_196 (Nat.le_of_ble_eq_true rfl) (Nat.le_of_ble_eq_true rfl) ⟨rfl, ST_mk hJ⟩)
        · skip
          refine g_istore C [some (.ref (d 0)), some (.int p1), some (.int p2), some (.ref (u 0)), some (.ref (u 1)), some (.ref (u 2)), some (.int rv1), some (.int rv2), some (.int vc), some (.int vr), some (.int (nI nc)), none, none, none, none, none] dL_acts_107 (by decide) rfl rfl ?_
          refine g_iload C dL_acts_109 rfl ?_
          refine g_iconst C 4 dL_acts_111 (by decide +kernel) ?_
          refine g_icmp_ne C 117 dL_acts_112 (by decide) (fun c_112 => ?_) (fun c_112 => ?_)
          · skip
            have hlt : nc < 4 := n4_lt n4 c_112
            refine g_iload C dL_acts_117 rfl ?_
            refine g_if_lt C 174 dL_acts_119 (by decide) (fun c9 => absurd c9 (nI_pos (by omega))) (fun _ => ?_)
            refine g_aload C dL_acts_122 rfl ?_
            refine g_iload C dL_acts_124 rfl ?_
            refine g_iload C dL_acts_126 rfl ?_
            refine g_iast C 1 0 rfl rfl nc rfl (by omega) (by decide) (wA cI u nc nw tk ho ri lo mg pt bd (upd cx nc rv1) cy ch rm on wx wy dm sv fv hd lf la ++ ((wCo cI a b d mg pt bd tk ho ri lo fv hd lf la ++ wSo cI cW a b r2 hp rl cn be bw wo) ++ wL cI cZ cG a r nc nw cx cy ch rm on wx wy dm sv mu qq)) (by rw [ugA_0 (by omega)]; rfl) dL_acts_128 ?_
            refine g_aload C dL_acts_129 rfl ?_
            refine g_iconst C 4 dL_acts_131 (by decide +kernel) ?_
            refine g_iload C dL_acts_132 rfl ?_
            refine g_iadd C (nI (4 + nc)) dL_acts_134 (nI_k 4 nc _ rfl) ?_
            refine g_iload C dL_acts_135 rfl ?_
            refine g_iast C 1 0 rfl rfl (4 + nc) rfl (by omega) (by decide) (wA cI u nc nw tk ho ri lo mg pt bd (upd cx nc rv1) (upd cy nc rv2) ch rm on wx wy dm sv fv hd lf la ++ ((wCo cI a b d mg pt bd tk ho ri lo fv hd lf la ++ wSo cI cW a b r2 hp rl cn be bw wo) ++ wL cI cZ cG a r nc nw cx cy ch rm on wx wy dm sv mu qq)) (by rw [ugA_1 (by omega)]; rfl) dL_acts_137 ?_
            refine g_aload C dL_acts_138 rfl ?_
            refine g_bipush C 8 dL_acts_140 (by decide +kernel) ?_
            refine g_iload C dL_acts_142 rfl ?_
            refine g_iadd C (nI (8 + nc)) dL_acts_144 (nI_k 8 nc _ rfl) ?_
            refine g_iload C dL_acts_145 rfl ?_
            refine g_iast C 1 0 rfl rfl (8 + nc) rfl (by omega) (by decide) (wA cI u nc nw tk ho ri lo mg pt bd (upd cx nc rv1) (upd cy nc rv2) (upd ch nc vc) rm on wx wy dm sv fv hd lf la ++ ((wCo cI a b d mg pt bd tk ho ri lo fv hd lf la ++ wSo cI cW a b r2 hp rl cn be bw wo) ++ wL cI cZ cG a r nc nw cx cy ch rm on wx wy dm sv mu qq)) (by rw [ugA_2 (by omega)]; rfl) dL_acts_147 ?_
            refine g_aload C dL_acts_148 rfl ?_
            refine g_bipush C 12 dL_acts_150 (by decide +kernel) ?_
            refine g_iload C dL_acts_152 rfl ?_
            refine g_iadd C (nI (12 + nc)) dL_acts_154 (nI_k 12 nc _ rfl) ?_
            refine g_iload C dL_acts_155 rfl ?_
            refine g_iast C 1 0 rfl rfl (12 + nc) rfl (by omega) (by decide) (wA cI u nc nw tk ho ri lo mg pt bd (upd cx nc rv1) (upd cy nc rv2) (upd ch nc vc) (upd rm nc vr) on wx wy dm sv fv hd lf la ++ ((wCo cI a b d mg pt bd tk ho ri lo fv hd lf la ++ wSo cI cW a b r2 hp rl cn be bw wo) ++ wL cI cZ cG a r nc nw cx cy ch rm on wx wy dm sv mu qq)) (by rw [ugA_3 (by omega)]; rfl) dL_acts_157 ?_
            refine g_aload C dL_acts_158 rfl ?_
            refine g_bipush C 16 dL_acts_160 (by decide +kernel) ?_
            refine g_iload C dL_acts_162 rfl ?_
            refine g_iadd C (nI (16 + nc)) dL_acts_164 (nI_k 16 nc _ rfl) ?_
            refine g_iconst C 1 dL_acts_165 (by decide +kernel) ?_
            refine g_iast C 1 0 rfl rfl (16 + nc) rfl (by omega) (by decide) (wA cI u nc nw tk ho ri lo mg pt bd (upd cx nc rv1) (upd cy nc rv2) (upd ch nc vc) (upd rm nc vr) (upd on nc 1) wx wy dm sv fv hd lf la ++ ((wCo cI a b d mg pt bd tk ho ri lo fv hd lf la ++ wSo cI cW a b r2 hp rl cn be bw wo) ++ wL cI cZ cG a r nc nw cx cy ch rm on wx wy dm sv mu qq)) (by rw [ugA_4 (by omega)]; rfl) dL_acts_166 ?_
            refine g_aload_n C dL_acts_167 rfl ?_
            refine g_iconst C 0 dL_acts_168 (by decide +kernel) ?_
            refine g_dup2 C dL_acts_169 rfl rfl ?_
            refine g_iald C 0 0 rfl rfl 0 rfl (by omega) (by decide) (nI nc) rfl dL_acts_170 ?_
            refine g_iconst C 1 dL_acts_171 (by decide +kernel) ?_
            refine g_iadd C (nI (nc + 1)) dL_acts_172 (nI_1 nc) ?_
            refine g_iast C 0 0 rfl rfl 0 rfl (by omega) (by decide) (wA cI u (nc + 1) nw tk ho ri lo mg pt bd (upd cx nc rv1) (upd cy nc rv2) (upd ch nc vc) (upd rm nc vr) (upd on nc 1) wx wy dm sv fv hd lf la ++ ((wCo cI a b d mg pt bd tk ho ri lo fv hd lf la ++ wSo cI cW a b r2 hp rl cn be bw wo) ++ wL cI cZ cG a r nc nw cx cy ch rm on wx wy dm sv mu qq)) (by rw [uc_0]; rfl) dL_acts_173 ?_
            refine g_aload_n C dL_acts_174 rfl ?_
            refine g_iload C dL_acts_175 rfl ?_
            refine g_iload C dL_acts_177 rfl ?_
            refine g_iload C dL_acts_179 rfl ?_
            refine g_iload C dL_acts_181 rfl ?_
            refine gx_callH C hX (wA cI u (nc + 1) nw tk ho ri lo mg pt bd (upd cx nc rv1) (upd cy nc rv2) (upd ch nc vc) (upd rm nc vr) (upd on nc 1) wx wy dm sv fv hd lf la) ((wCo cI a b d mg pt bd tk ho ri lo fv hd lf la ++ wSo cI cW a b r2 hp rl cn be bw wo) ++ wL cI cZ cG a r nc nw cx cy ch rm on wx wy dm sv mu qq) [.ref (d 0), .int rv1, .int rv2, .int vc, .int vr] (t_L_built hl0 (by omega)) (vx_cwSW 5 C.ts gL_acts_L_built rfl rfl rfl (by decide +kernel) ⟨Nat.le_of_ble_eq_true rfl, Nat.le_of_ble_eq_true rfl⟩) rfl rfl rfl (Nat.le_of_ble_eq_true rfl) dL_acts_183 ⟨Nat.le_of_ble_eq_true rfl, Nat.le_of_ble_eq_true rfl⟩ (fun rv6 wv6 hp6 => ?_)
            obtain ⟨rfl, rfl⟩ : rv6 = nI nc ∧ wv6 = ((wCo cI a b d mg pt bd tk ho ri lo fv hd lf la ++ wSo cI cW a b r2 hp rl cn be bw wo) ++ wL cI cZ cG a r (nc + 1) nw (upd cx nc rv1) (upd cy nc rv2) (upd ch nc vc) (upd rm nc vr) (upd on nc 1) wx wy dm sv mu qq) := by
              rcases hp6 with ⟨h1, _, h2⟩ | ⟨_, hb, _⟩ | ⟨_, hb, _⟩
              · exact ⟨h1, h2⟩
              · exact absurd hyes hb
              · exact absurd (show nc < 5 by omega) hb.2
            refine g_iload C dL_acts_186 rfl ?_
            refine g_icmp_ne C 195 dL_acts_188 (by decide) (fun c9 => absurd rfl c9) (fun _ => ?_)
            refine g_iconst C 1 dL_acts_191 (by decide +kernel) ?_
            refine g_goto C 196 dL_acts_192 (by decide) ?_
            exact gx_I (g_zret C hret (by decide +kernel) dL_acts_196 (Nat.le_of_ble_eq_true rfl) (Nat.le_of_ble_eq_true rfl) ⟨rfl, ST_mk (JI_cell hJ hyes hlt)⟩)
          · skip
            refine g_iconst C 1 dL_acts_115 (by decide +kernel) ?_
            exact gx_I (g_zret C hret (by decide +kernel) dL_acts_116 (Nat.le_of_ble_eq_true rfl) (Nat.le_of_ble_eq_true rfl) ⟨rfl, ST_mk hJ⟩)
      · skip
        refine g_iload C dL_acts_72 rfl ?_
        refine g_bipush C 63 dL_acts_74 (by decide +kernel) ?_
        refine g_icmp_gt C 99 dL_acts_76 (by decide) (fun c_76 => ?_) (fun c_76 => ?_)
        · skip
          have hno : ¬ inC rv1 rv2 vc vr := fun q => absurd c_76 (Int32.not_lt.mpr q.1.2)
          refine g_bipush C (-101) dL_acts_99 (by decide +kernel) ?_
          refine g_goto C 107 dL_acts_101 (by decide) ?_
          refine g_widen (k' := 0) (n' := 0) (by omega) (by omega) ?_
          exact J107 ((-101)) (Or.inl ⟨rfl, hno⟩)
        · skip
          refine g_iload C dL_acts_79 rfl ?_
          refine g_bipush C 63 dL_acts_81 (by decide +kernel) ?_
          refine g_icmp_gt C 99 dL_acts_83 (by decide) (fun c_83 => ?_) (fun c_83 => ?_)
          · skip
            have hno : ¬ inC rv1 rv2 vc vr := fun q => absurd c_83 (Int32.not_lt.mpr q.2.1.2)
            refine g_bipush C (-101) dL_acts_99 (by decide +kernel) ?_
            refine g_goto C 107 dL_acts_101 (by decide) ?_
            refine g_widen (k' := 0) (n' := 0) (by omega) (by omega) ?_
            exact J107 ((-101)) (Or.inl ⟨rfl, hno⟩)
          · skip
            refine g_iload C dL_acts_86 rfl ?_
            refine g_iconst C 2 dL_acts_88 (by decide +kernel) ?_
            refine g_icmp_gt C 99 dL_acts_89 (by decide) (fun c_89 => ?_) (fun c_89 => ?_)
            · skip
              have hno : ¬ inC rv1 rv2 vc vr := fun q => absurd c_89 (Int32.not_lt.mpr q.2.2.1.2)
              refine g_bipush C (-101) dL_acts_99 (by decide +kernel) ?_
              refine g_goto C 107 dL_acts_101 (by decide) ?_
              refine g_widen (k' := 0) (n' := 0) (by omega) (by omega) ?_
              exact J107 ((-101)) (Or.inl ⟨rfl, hno⟩)
            · skip
              refine g_iload C dL_acts_92 rfl ?_
              refine g_bipush C 40 dL_acts_94 (by decide +kernel) ?_
              refine g_icmp_le C 104 dL_acts_96 (by decide) (fun c_96 => ?_) (fun c_96 => ?_)
              · skip
                refine g_aload_n C dL_acts_104 rfl ?_
                refine g_iconst C 0 dL_acts_105 (by decide +kernel) ?_
                refine g_iald C 0 0 rfl rfl 0 rfl (by omega) (by decide) (nI nc) rfl dL_acts_106 ?_
                refine g_widen (k' := 0) (n' := 0) (by omega) (by omega) ?_
                exact J107 (nI nc) (Or.inr ⟨rfl, inC_of hs1 hs2 hvc hvr c_76 c_83 c_89 c_96⟩)
              · skip
                have hno : ¬ inC rv1 rv2 vc vr := fun q => c_96 q.2.2.2.2
                refine g_bipush C (-101) dL_acts_99 (by decide +kernel) ?_
                refine g_goto C 107 dL_acts_101 (by decide) ?_
                refine g_widen (k' := 0) (n' := 0) (by omega) (by omega) ?_
                exact J107 ((-101)) (Or.inl ⟨rfl, hno⟩)
    · skip
      refine g_if_ne C 60 dL_acts_52 (by decide) (fun c_52 => ?_) (fun c_52 => ?_)
      · skip
        refine g_iconst C 3 dL_acts_60 (by decide +kernel) ?_
        refine g_iload_n C dL_acts_61 rfl ?_
        refine g_iconst C 4 dL_acts_62 (by decide +kernel) ?_
        refine g_ishr C (p2 >>> (4 &&& 31)) dL_acts_63 rfl ?_
        refine g_bipush C 20 dL_acts_64 (by decide +kernel) ?_
        refine g_callSi C (wA cI u nc nw tk ho ri lo mg pt bd cx cy ch rm on wx wy dm sv fv hd lf la ++ ((wCo cI a b d mg pt bd tk ho ri lo fv hd lf la ++ wSo cI cW a b r2 hp rl cn be bw wo) ++ wL cI cZ cG a r nc nw cx cy ch rm on wx wy dm sv mu qq)) [] [.int (p2 >>> (4 &&& 31)), .int 20] (t_L_some (by decide)) (va_cwS 2 C.ts gL_acts_L_some rfl rfl rfl (by decide +kernel) ⟨Nat.le_of_ble_eq_true rfl, Nat.le_of_ble_eq_true rfl⟩) rfl (List.append_nil _).symm rfl (Nat.le_of_ble_eq_true rfl) dL_acts_66 ⟨Nat.le_of_ble_eq_true rfl, Nat.le_of_ble_eq_true rfl⟩ (fun rv7 wv7 hp7 => ?_)
        obtain ⟨hs7, rfl⟩ := hp7
        have hs7 : tB 0 19 rv7 := some_tB hs7 (by decide)
        refine g_w (ws' := (wA cI u nc nw tk ho ri lo mg pt bd cx cy ch rm on wx wy dm sv fv hd lf la ++ ((wCo cI a b d mg pt bd tk ho ri lo fv hd lf la ++ wSo cI cW a b r2 hp rl cn be bw wo) ++ wL cI cZ cG a r nc nw cx cy ch rm on wx wy dm sv mu qq))) (List.append_nil _) ?_
        refine g_iadd C (3 + rv7) dL_acts_69 rfl ?_
        refine g_widen (k' := 0) (n' := 0) (by omega) (by omega) ?_
        exact J70 (3 + rv7) (tB_wk (tB_add (tB_k 3 3 rfl) hs7 (by decide) (by decide)) (by decide) (by decide))
      · skip
        refine g_bipush C 41 dL_acts_55 (by decide +kernel) ?_
        refine g_goto C 70 dL_acts_57 (by decide) ?_
        refine g_widen (k' := 0) (n' := 0) (by omega) (by omega) ?_
        exact J70 41 (tB_wk (tB_k 41 41 rfl) (by decide) (by decide))
  · skip
    refine g_if_ne C 34 dL_acts_27 (by decide) (fun c_27 => ?_) (fun c_27 => ?_)
    · skip
      refine g_iload_n C dL_acts_34 rfl ?_
      refine g_bipush C 7 dL_acts_35 (by decide +kernel) ?_
      refine g_ishr C (p2 >>> (7 &&& 31)) dL_acts_37 rfl ?_
      refine g_iconst C 2 dL_acts_38 (by decide +kernel) ?_
      refine g_callSi C (wA cI u nc nw tk ho ri lo mg pt bd cx cy ch rm on wx wy dm sv fv hd lf la ++ ((wCo cI a b d mg pt bd tk ho ri lo fv hd lf la ++ wSo cI cW a b r2 hp rl cn be bw wo) ++ wL cI cZ cG a r nc nw cx cy ch rm on wx wy dm sv mu qq)) [] [.int (p2 >>> (7 &&& 31)), .int 2] (t_L_some (by decide)) (va_cwS 2 C.ts gL_acts_L_some rfl rfl rfl (by decide +kernel) ⟨Nat.le_of_ble_eq_true rfl, Nat.le_of_ble_eq_true rfl⟩) rfl (List.append_nil _).symm rfl (Nat.le_of_ble_eq_true rfl) dL_acts_39 ⟨Nat.le_of_ble_eq_true rfl, Nat.le_of_ble_eq_true rfl⟩ (fun rv8 wv8 hp8 => ?_)
      obtain ⟨hs8, rfl⟩ := hp8
      have hs8 : tB 0 1 rv8 := some_tB hs8 (by decide)
      refine g_w (ws' := (wA cI u nc nw tk ho ri lo mg pt bd cx cy ch rm on wx wy dm sv fv hd lf la ++ ((wCo cI a b d mg pt bd tk ho ri lo fv hd lf la ++ wSo cI cW a b r2 hp rl cn be bw wo) ++ wL cI cZ cG a r nc nw cx cy ch rm on wx wy dm sv mu qq))) (List.append_nil _) ?_
      refine g_widen (k' := 0) (n' := 0) (by omega) (by omega) ?_
      exact J42 rv8 (tB_wk hs8 (by decide) (by decide))
    · skip
      refine g_iconst C 3 dL_acts_30 (by decide +kernel) ?_
      refine g_goto C 42 dL_acts_31 (by decide) ?_
      refine g_widen (k' := 0) (n' := 0) (by omega) (by omega) ?_
      exact J42 3 (tB_wk (tB_k 3 3 rfl) (by decide) (by decide))
set_option maxHeartbeats 8000000 in
set_option maxRecDepth 100000 in
theorem acts_k1 {l : Launch} (hl0 : l.stackTraces = false) {D : va_G} {cI cZ cJ cG cW : ClassId} {u : Nat → Nat} {nc nw : Nat} {tk ho ri lo mg pt bd : Int32} {cx cy ch rm on wx wy dm sv fv hd lf la : Nat → Int32} {a b d r2 : Nat → Nat} {hp rl cn be : Nat → Int32} {bw : Int32} {wo : Nat → Nat → Int32} {r : Nat → Nat} {mu : Nat → Int32} {qq : Nat → Nat → Int32} {p1 p2 : Int32} {p_ : Program} {e_ : Env} {s_ : State} {m_ : MethodId} {as_ : Array Value} {bl_ : List Frame} {me_ : Method} {co_ : Code} (C : CX p_ s_ m_ as_ me_ co_ cL_acts RL wsL_acts D (T5 cI cZ cJ cG cW) (va_A (wA cI u nc nw tk ho ri lo mg pt bd cx cy ch rm on wx wy dm sv fv hd lf la ++ ((wCo cI a b d mg pt bd tk ho ri lo fv hd lf la ++ wSo cI cW a b r2 hp rl cn be bw wo) ++ wL cI cZ cG a r nc nw cx cy ch rm on wx wy dm sv mu qq)) s_.heap.size) 16) (hret : me_.sig.returnType = some .boolean) (hX : XX (va_A (wA cI u nc nw tk ho ri lo mg pt bd cx cy ch rm on wx wy dm sv fv hd lf la ++ ((wCo cI a b d mg pt bd tk ho ri lo fv hd lf la ++ wSo cI cW a b r2 hp rl cn be bw wo) ++ wL cI cZ cG a r nc nw cx cy ch rm on wx wy dm sv mu qq)) s_.heap.size) s_ s_.heap) (hJ : JI nc nw cx cy ch rm on wx wy dm sv hd) :
    G p_ l e_ { frames := 12, cells := 20, slots := 120, locals := 400 } s_ m_ as_ bl_ me_ co_ D (va_A (wA cI u nc nw tk ho ri lo mg pt bd cx cy ch rm on wx wy dm sv fv hd lf la ++ ((wCo cI a b d mg pt bd tk ho ri lo fv hd lf la ++ wSo cI cW a b r2 hp rl cn be bw wo) ++ wL cI cZ cG a r nc nw cx cy ch rm on wx wy dm sv mu qq)) s_.heap.size) 16 (QXI bl_ (fun rv wv => rv = 1 ∧ ST cI cZ cG cW u a b d r r2 wv) (fun _ => False) D (T5 cI cZ cJ cG cW) (wA cI u nc nw tk ho ri lo mg pt bd cx cy ch rm on wx wy dm sv fv hd lf la ++ ((wCo cI a b d mg pt bd tk ho ri lo fv hd lf la ++ wSo cI cW a b r2 hp rl cn be bw wo) ++ wL cI cZ cG a r nc nw cx cy ch rm on wx wy dm sv mu qq)) as_ s_ 20 120) 0 0 (wA cI u nc nw tk ho ri lo mg pt bd cx cy ch rm on wx wy dm sv fv hd lf la ++ ((wCo cI a b d mg pt bd tk ho ri lo fv hd lf la ++ wSo cI cW a b r2 hp rl cn be bw wo) ++ wL cI cZ cG a r nc nw cx cy ch rm on wx wy dm sv mu qq)) [some (.ref (d 0)), some (.int p1), some (.int p2), some (.ref (u 0)), some (.ref (u 1)), some (.ref (u 2)), none, none, none, none, none, none, none, none, none, none] 202 [] := by
  have n4 := hJ.n4
  have w4 := hJ.w4
  refine g_iload_n C dL_acts_202 rfl ?_
  refine g_callSi C (wA cI u nc nw tk ho ri lo mg pt bd cx cy ch rm on wx wy dm sv fv hd lf la ++ ((wCo cI a b d mg pt bd tk ho ri lo fv hd lf la ++ wSo cI cW a b r2 hp rl cn be bw wo) ++ wL cI cZ cG a r nc nw cx cy ch rm on wx wy dm sv mu qq)) [] [.int p2] t_L_place (va_cwS 1 C.ts gL_acts_L_place rfl rfl rfl (by decide +kernel) ⟨Nat.le_of_ble_eq_true rfl, Nat.le_of_ble_eq_true rfl⟩) rfl (List.append_nil _).symm rfl (Nat.le_of_ble_eq_true rfl) dL_acts_203 ⟨Nat.le_of_ble_eq_true rfl, Nat.le_of_ble_eq_true rfl⟩ (fun rv1 wv1 hp1 => ?_)
  obtain ⟨hs1, rfl⟩ := hp1
  refine g_w (ws' := (wA cI u nc nw tk ho ri lo mg pt bd cx cy ch rm on wx wy dm sv fv hd lf la ++ ((wCo cI a b d mg pt bd tk ho ri lo fv hd lf la ++ wSo cI cW a b r2 hp rl cn be bw wo) ++ wL cI cZ cG a r nc nw cx cy ch rm on wx wy dm sv mu qq))) (List.append_nil _) ?_
  refine g_istore C [some (.ref (d 0)), some (.int p1), some (.int p2), some (.ref (u 0)), some (.ref (u 1)), some (.ref (u 2)), some (.int rv1), none, none, none, none, none, none, none, none, none] dL_acts_206 (by decide) rfl rfl ?_
  refine g_iload_n C dL_acts_208 rfl ?_
  refine g_iconst C 5 dL_acts_209 (by decide +kernel) ?_
  refine g_ishr C (p2 >>> (5 &&& 31)) dL_acts_210 rfl ?_
  refine g_callSi C (wA cI u nc nw tk ho ri lo mg pt bd cx cy ch rm on wx wy dm sv fv hd lf la ++ ((wCo cI a b d mg pt bd tk ho ri lo fv hd lf la ++ wSo cI cW a b r2 hp rl cn be bw wo) ++ wL cI cZ cG a r nc nw cx cy ch rm on wx wy dm sv mu qq)) [] [.int (p2 >>> (5 &&& 31))] t_L_place (va_cwS 1 C.ts gL_acts_L_place rfl rfl rfl (by decide +kernel) ⟨Nat.le_of_ble_eq_true rfl, Nat.le_of_ble_eq_true rfl⟩) rfl (List.append_nil _).symm rfl (Nat.le_of_ble_eq_true rfl) dL_acts_211 ⟨Nat.le_of_ble_eq_true rfl, Nat.le_of_ble_eq_true rfl⟩ (fun rv2 wv2 hp2 => ?_)
  obtain ⟨hs2, rfl⟩ := hp2
  refine g_w (ws' := (wA cI u nc nw tk ho ri lo mg pt bd cx cy ch rm on wx wy dm sv fv hd lf la ++ ((wCo cI a b d mg pt bd tk ho ri lo fv hd lf la ++ wSo cI cW a b r2 hp rl cn be bw wo) ++ wL cI cZ cG a r nc nw cx cy ch rm on wx wy dm sv mu qq))) (List.append_nil _) ?_
  refine g_istore C [some (.ref (d 0)), some (.int p1), some (.int p2), some (.ref (u 0)), some (.ref (u 1)), some (.ref (u 2)), some (.int rv1), some (.int rv2), none, none, none, none, none, none, none, none] dL_acts_214 (by decide) rfl rfl ?_
  refine g_iload_n C dL_acts_216 rfl ?_
  refine g_bipush C 7 dL_acts_217 (by decide +kernel) ?_
  refine g_ishr C (p2 >>> (7 &&& 31)) dL_acts_219 rfl ?_
  refine g_bipush C 30 dL_acts_220 (by decide +kernel) ?_
  refine g_callSi C (wA cI u nc nw tk ho ri lo mg pt bd cx cy ch rm on wx wy dm sv fv hd lf la ++ ((wCo cI a b d mg pt bd tk ho ri lo fv hd lf la ++ wSo cI cW a b r2 hp rl cn be bw wo) ++ wL cI cZ cG a r nc nw cx cy ch rm on wx wy dm sv mu qq)) [] [.int (p2 >>> (7 &&& 31)), .int 30] (t_L_some (by decide)) (va_cwS 2 C.ts gL_acts_L_some rfl rfl rfl (by decide +kernel) ⟨Nat.le_of_ble_eq_true rfl, Nat.le_of_ble_eq_true rfl⟩) rfl (List.append_nil _).symm rfl (Nat.le_of_ble_eq_true rfl) dL_acts_222 ⟨Nat.le_of_ble_eq_true rfl, Nat.le_of_ble_eq_true rfl⟩ (fun rv3 wv3 hp3 => ?_)
  obtain ⟨hs3, rfl⟩ := hp3
  have hs3 : tB 0 29 rv3 := some_tB hs3 (by decide)
  refine g_w (ws' := (wA cI u nc nw tk ho ri lo mg pt bd cx cy ch rm on wx wy dm sv fv hd lf la ++ ((wCo cI a b d mg pt bd tk ho ri lo fv hd lf la ++ wSo cI cW a b r2 hp rl cn be bw wo) ++ wL cI cZ cG a r nc nw cx cy ch rm on wx wy dm sv mu qq))) (List.append_nil _) ?_
  refine g_join (σ := Int32) (fun vd : Int32 => tB 0 10 vd) (fun vd : Int32 => (wA cI u nc nw tk ho ri lo mg pt bd cx cy ch rm on wx wy dm sv fv hd lf la ++ ((wCo cI a b d mg pt bd tk ho ri lo fv hd lf la ++ wSo cI cW a b r2 hp rl cn be bw wo) ++ wL cI cZ cG a r nc nw cx cy ch rm on wx wy dm sv mu qq))) (fun vd : Int32 => [some (.ref (d 0)), some (.int p1), some (.int p2), some (.ref (u 0)), some (.ref (u 1)), some (.ref (u 2)), some (.int rv1), some (.int rv2), none, none, none, none, none, none, none, none]) (fun vd : Int32 => [.int vd]) 243 (0) (0) (fun vd hvd => ?_) (fun J243 => ?_)
  · skip
    refine g_istore C [some (.ref (d 0)), some (.int p1), some (.int p2), some (.ref (u 0)), some (.ref (u 1)), some (.ref (u 2)), some (.int rv1), some (.int rv2), some (.int vd), none, none, none, none, none, none, none] dL_acts_243 (by decide) rfl rfl ?_
    refine g_join (σ := Int32) (fun due : Int32 => (due = -101 ∧ ¬ inW rv1 rv2 vd) ∨ (due = nI nw ∧ inW rv1 rv2 vd)) (fun due : Int32 => (wA cI u nc nw tk ho ri lo mg pt bd cx cy ch rm on wx wy dm sv fv hd lf la ++ ((wCo cI a b d mg pt bd tk ho ri lo fv hd lf la ++ wSo cI cW a b r2 hp rl cn be bw wo) ++ wL cI cZ cG a r nc nw cx cy ch rm on wx wy dm sv mu qq))) (fun due : Int32 => [some (.ref (d 0)), some (.int p1), some (.int p2), some (.ref (u 0)), some (.ref (u 1)), some (.ref (u 2)), some (.int rv1), some (.int rv2), some (.int vd), none, none, none, none, none, none, none]) (fun due : Int32 => [.int due]) 273 (0) (0) (fun due hdue => ?_) (fun J273 => ?_)
    · skip
      rcases hdue with ⟨rfl, hno⟩ | ⟨rfl, hyes⟩
      · skip
        refine g_istore C [some (.ref (d 0)), some (.int p1), some (.int p2), some (.ref (u 0)), some (.ref (u 1)), some (.ref (u 2)), some (.int rv1), some (.int rv2), some (.int vd), some (.int ((-101))), none, none, none, none, none, none] dL_acts_273 (by decide) rfl rfl ?_
        refine g_iload C dL_acts_275 rfl ?_
        refine g_iconst C 4 dL_acts_277 (by decide +kernel) ?_
        refine g_icmp_ne C 283 dL_acts_278 (by decide) (fun _ => ?_) (fun c9 => absurd c9 (by decide))
        refine g_iload C dL_acts_283 rfl ?_
        refine g_if_lt C 348 dL_acts_285 (by decide) (fun _ => ?_) (fun c9 => absurd (by decide) c9)
        refine g_aload_n C dL_acts_348 rfl ?_
        refine g_iload C dL_acts_349 rfl ?_
        refine g_iload C dL_acts_351 rfl ?_
        refine g_iload C dL_acts_353 rfl ?_
        refine gx_callH C hX (wA cI u nc nw tk ho ri lo mg pt bd cx cy ch rm on wx wy dm sv fv hd lf la) ((wCo cI a b d mg pt bd tk ho ri lo fv hd lf la ++ wSo cI cW a b r2 hp rl cn be bw wo) ++ wL cI cZ cG a r nc nw cx cy ch rm on wx wy dm sv mu qq) [.ref (d 0), .int rv1, .int rv2, .int vd] (t_L_came hl0 (by omega)) (vx_cwSW 4 C.ts gL_acts_L_came rfl rfl rfl (by decide +kernel) ⟨Nat.le_of_ble_eq_true rfl, Nat.le_of_ble_eq_true rfl⟩) rfl rfl rfl (Nat.le_of_ble_eq_true rfl) dL_acts_355 ⟨Nat.le_of_ble_eq_true rfl, Nat.le_of_ble_eq_true rfl⟩ (fun rv4 wv4 hp4 => ?_)
        obtain ⟨rfl, rfl⟩ : rv4 = -101 ∧ wv4 = ((wCo cI a b d mg pt bd tk ho ri lo fv hd lf la ++ wSo cI cW a b r2 hp rl cn be bw wo) ++ wL cI cZ cG a r nc nw cx cy ch rm on wx wy dm sv mu qq) := by
          rcases hp4 with ⟨_, hb, _⟩ | ⟨h1, _, h2⟩ | ⟨_, hb, _⟩
          · exact absurd hb.1 hno
          · exact ⟨h1, h2⟩
          · exact absurd hb.1 hno
        refine g_iload C dL_acts_358 rfl ?_
        refine g_icmp_ne C 367 dL_acts_360 (by decide) (fun c9 => absurd rfl c9) (fun _ => ?_)
        refine g_iconst C 1 dL_acts_363 (by decide +kernel) ?_
        refine g_goto C 368 dL_acts_364 (by decide) ?_
        exact gx_I (g_zret C hret (by decide +kernel) dL_acts_368 (Nat.le_of_ble_eq_true rfl) (Nat.le_of_ble_eq_true rfl) ⟨rfl, ST_mk hJ⟩)
      · skip
        refine g_istore C [some (.ref (d 0)), some (.int p1), some (.int p2), some (.ref (u 0)), some (.ref (u 1)), some (.ref (u 2)), some (.int rv1), some (.int rv2), some (.int vd), some (.int (nI nw)), none, none, none, none, none, none] dL_acts_273 (by decide) rfl rfl ?_
        refine g_iload C dL_acts_275 rfl ?_
        refine g_iconst C 4 dL_acts_277 (by decide +kernel) ?_
        refine g_icmp_ne C 283 dL_acts_278 (by decide) (fun c_278 => ?_) (fun c_278 => ?_)
        · skip
          have hlt : nw < 4 := n4_lt w4 c_278
          refine g_iload C dL_acts_283 rfl ?_
          refine g_if_lt C 348 dL_acts_285 (by decide) (fun c9 => absurd c9 (nI_pos (by omega))) (fun _ => ?_)
          refine g_aload C dL_acts_288 rfl ?_
          refine g_iload C dL_acts_290 rfl ?_
          refine g_iload C dL_acts_292 rfl ?_
          refine g_iast C 2 0 rfl rfl nw rfl (by omega) (by decide) (wA cI u nc nw tk ho ri lo mg pt bd cx cy ch rm on (upd wx nw rv1) wy dm sv fv hd lf la ++ ((wCo cI a b d mg pt bd tk ho ri lo fv hd lf la ++ wSo cI cW a b r2 hp rl cn be bw wo) ++ wL cI cZ cG a r nc nw cx cy ch rm on wx wy dm sv mu qq)) (by rw [uhA_0 (by omega)]; rfl) dL_acts_294 ?_
          refine g_aload C dL_acts_295 rfl ?_
          refine g_iconst C 4 dL_acts_297 (by decide +kernel) ?_
          refine g_iload C dL_acts_298 rfl ?_
          refine g_iadd C (nI (4 + nw)) dL_acts_300 (nI_k 4 nw _ rfl) ?_
          refine g_iload C dL_acts_301 rfl ?_
          refine g_iast C 2 0 rfl rfl (4 + nw) rfl (by omega) (by decide) (wA cI u nc nw tk ho ri lo mg pt bd cx cy ch rm on (upd wx nw rv1) (upd wy nw rv2) dm sv fv hd lf la ++ ((wCo cI a b d mg pt bd tk ho ri lo fv hd lf la ++ wSo cI cW a b r2 hp rl cn be bw wo) ++ wL cI cZ cG a r nc nw cx cy ch rm on wx wy dm sv mu qq)) (by rw [uhA_1 (by omega)]; rfl) dL_acts_303 ?_
          refine g_aload C dL_acts_304 rfl ?_
          refine g_bipush C 8 dL_acts_306 (by decide +kernel) ?_
          refine g_iload C dL_acts_308 rfl ?_
          refine g_iadd C (nI (8 + nw)) dL_acts_310 (nI_k 8 nw _ rfl) ?_
          refine g_iload C dL_acts_311 rfl ?_
          refine g_iast C 2 0 rfl rfl (8 + nw) rfl (by omega) (by decide) (wA cI u nc nw tk ho ri lo mg pt bd cx cy ch rm on (upd wx nw rv1) (upd wy nw rv2) (upd dm nw vd) sv fv hd lf la ++ ((wCo cI a b d mg pt bd tk ho ri lo fv hd lf la ++ wSo cI cW a b r2 hp rl cn be bw wo) ++ wL cI cZ cG a r nc nw cx cy ch rm on wx wy dm sv mu qq)) (by rw [uhA_2 (by omega)]; rfl) dL_acts_313 ?_
          refine g_aload C dL_acts_314 rfl ?_
          refine g_bipush C 12 dL_acts_316 (by decide +kernel) ?_
          refine g_iload C dL_acts_318 rfl ?_
          refine g_iadd C (nI (12 + nw)) dL_acts_320 (nI_k 12 nw _ rfl) ?_
          refine g_iconst C (-1) dL_acts_321 (by decide +kernel) ?_
          refine g_iast C 2 0 rfl rfl (12 + nw) rfl (by omega) (by decide) (wA cI u nc nw tk ho ri lo mg pt bd cx cy ch rm on (upd wx nw rv1) (upd wy nw rv2) (upd dm nw vd) (upd sv nw ((-1))) fv hd lf la ++ ((wCo cI a b d mg pt bd tk ho ri lo fv hd lf la ++ wSo cI cW a b r2 hp rl cn be bw wo) ++ wL cI cZ cG a r nc nw cx cy ch rm on wx wy dm sv mu qq)) (by rw [uhA_3 (by omega)]; rfl) dL_acts_322 ?_
          refine g_aload C dL_acts_323 rfl ?_
          refine g_bipush C 16 dL_acts_325 (by decide +kernel) ?_
          refine g_iload C dL_acts_327 rfl ?_
          refine g_iadd C (nI (16 + nw)) dL_acts_329 (nI_k 16 nw _ rfl) ?_
          refine g_iconst C (-1) dL_acts_330 (by decide +kernel) ?_
          refine g_iast C 2 0 rfl rfl (16 + nw) rfl (by omega) (by decide) (wA cI u nc nw tk ho ri lo mg pt bd cx cy ch rm on (upd wx nw rv1) (upd wy nw rv2) (upd dm nw vd) (upd sv nw ((-1))) (upd fv nw ((-1))) hd lf la ++ ((wCo cI a b d mg pt bd tk ho ri lo fv hd lf la ++ wSo cI cW a b r2 hp rl cn be bw wo) ++ wL cI cZ cG a r nc nw cx cy ch rm on wx wy dm sv mu qq)) (by rw [uhA_4 (by omega)]; rfl) dL_acts_331 ?_
          refine g_aload C dL_acts_332 rfl ?_
          refine g_bipush C 24 dL_acts_334 (by decide +kernel) ?_
          refine g_iload C dL_acts_336 rfl ?_
          refine g_iadd C (nI (24 + nw)) dL_acts_338 (nI_k 24 nw _ rfl) ?_
          refine g_iconst C (-1) dL_acts_339 (by decide +kernel) ?_
          refine g_iast C 2 0 rfl rfl (24 + nw) rfl (by omega) (by decide) (wA cI u nc nw tk ho ri lo mg pt bd cx cy ch rm on (upd wx nw rv1) (upd wy nw rv2) (upd dm nw vd) (upd sv nw ((-1))) (upd fv nw ((-1))) hd (upd lf nw ((-1))) la ++ ((wCo cI a b d mg pt bd tk ho ri lo fv hd lf la ++ wSo cI cW a b r2 hp rl cn be bw wo) ++ wL cI cZ cG a r nc nw cx cy ch rm on wx wy dm sv mu qq)) (by rw [uhA_6 (by omega)]; rfl) dL_acts_340 ?_
          refine g_aload_n C dL_acts_341 rfl ?_
          refine g_iconst C 1 dL_acts_342 (by decide +kernel) ?_
          refine g_dup2 C dL_acts_343 rfl rfl ?_
          refine g_iald C 0 0 rfl rfl 1 rfl (by omega) (by decide) (nI nw) rfl dL_acts_344 ?_
          refine g_iconst C 1 dL_acts_345 (by decide +kernel) ?_
          refine g_iadd C (nI (nw + 1)) dL_acts_346 (nI_1 nw) ?_
          refine g_iast C 0 0 rfl rfl 1 rfl (by omega) (by decide) (wA cI u nc (nw + 1) tk ho ri lo mg pt bd cx cy ch rm on (upd wx nw rv1) (upd wy nw rv2) (upd dm nw vd) (upd sv nw ((-1))) (upd fv nw ((-1))) hd (upd lf nw ((-1))) la ++ ((wCo cI a b d mg pt bd tk ho ri lo fv hd lf la ++ wSo cI cW a b r2 hp rl cn be bw wo) ++ wL cI cZ cG a r nc nw cx cy ch rm on wx wy dm sv mu qq)) (by rw [uc_1]; rfl) dL_acts_347 ?_
          refine g_aload_n C dL_acts_348 rfl ?_
          refine g_iload C dL_acts_349 rfl ?_
          refine g_iload C dL_acts_351 rfl ?_
          refine g_iload C dL_acts_353 rfl ?_
          refine gx_callH C hX (wA cI u nc (nw + 1) tk ho ri lo mg pt bd cx cy ch rm on (upd wx nw rv1) (upd wy nw rv2) (upd dm nw vd) (upd sv nw ((-1))) (upd fv nw ((-1))) hd (upd lf nw ((-1))) la) ((wCo cI a b d mg pt bd tk ho ri lo fv hd lf la ++ wSo cI cW a b r2 hp rl cn be bw wo) ++ wL cI cZ cG a r nc nw cx cy ch rm on wx wy dm sv mu qq) [.ref (d 0), .int rv1, .int rv2, .int vd] (t_L_came hl0 (by omega)) (vx_cwSW 4 C.ts gL_acts_L_came rfl rfl rfl (by decide +kernel) ⟨Nat.le_of_ble_eq_true rfl, Nat.le_of_ble_eq_true rfl⟩) rfl rfl rfl (Nat.le_of_ble_eq_true rfl) dL_acts_355 ⟨Nat.le_of_ble_eq_true rfl, Nat.le_of_ble_eq_true rfl⟩ (fun rv5 wv5 hp5 => ?_)
          obtain ⟨rfl, rfl⟩ : rv5 = nI nw ∧ wv5 = ((wCo cI a b d mg pt bd tk ho ri lo (upd fv nw (-1)) hd (upd lf nw (-1)) la ++ wSo cI cW a b r2 hp rl cn be bw wo) ++ wL cI cZ cG a r nc (nw + 1) cx cy ch rm on (upd wx nw rv1) (upd wy nw rv2) (upd dm nw vd) (upd sv nw (-1)) mu qq) := by
            rcases hp5 with ⟨h1, _, h2⟩ | ⟨_, hb, _⟩ | ⟨_, hb, _⟩
            · skip
              rw [upd_id (hJ.2.2.2.2.1 nw (Nat.le_refl _))] at h2
              exact ⟨h1, h2⟩
            · exact absurd hyes hb
            · exact absurd (show nw < 6 by omega) hb.2
          refine g_iload C dL_acts_358 rfl ?_
          refine g_icmp_ne C 367 dL_acts_360 (by decide) (fun c9 => absurd rfl c9) (fun _ => ?_)
          refine g_iconst C 1 dL_acts_363 (by decide +kernel) ?_
          refine g_goto C 368 dL_acts_364 (by decide) ?_
          exact gx_I (g_zret C hret (by decide +kernel) dL_acts_368 (Nat.le_of_ble_eq_true rfl) (Nat.le_of_ble_eq_true rfl) ⟨rfl, ST_mk (JI_walker hJ hyes hlt)⟩)
        · skip
          refine g_iconst C 1 dL_acts_281 (by decide +kernel) ?_
          exact gx_I (g_zret C hret (by decide +kernel) dL_acts_282 (Nat.le_of_ble_eq_true rfl) (Nat.le_of_ble_eq_true rfl) ⟨rfl, ST_mk hJ⟩)
    · skip
      refine g_iload C dL_acts_245 rfl ?_
      refine g_bipush C 63 dL_acts_247 (by decide +kernel) ?_
      refine g_icmp_gt C 265 dL_acts_249 (by decide) (fun c_249 => ?_) (fun c_249 => ?_)
      · skip
        have hno : ¬ inW rv1 rv2 vd := fun q => absurd c_249 (Int32.not_lt.mpr q.1.2)
        refine g_bipush C (-101) dL_acts_265 (by decide +kernel) ?_
        refine g_goto C 273 dL_acts_267 (by decide) ?_
        refine g_widen (k' := 0) (n' := 0) (by omega) (by omega) ?_
        exact J273 ((-101)) (Or.inl ⟨rfl, hno⟩)
      · skip
        refine g_iload C dL_acts_252 rfl ?_
        refine g_bipush C 63 dL_acts_254 (by decide +kernel) ?_
        refine g_icmp_gt C 265 dL_acts_256 (by decide) (fun c_256 => ?_) (fun c_256 => ?_)
        · skip
          have hno : ¬ inW rv1 rv2 vd := fun q => absurd c_256 (Int32.not_lt.mpr q.2.1.2)
          refine g_bipush C (-101) dL_acts_265 (by decide +kernel) ?_
          refine g_goto C 273 dL_acts_267 (by decide) ?_
          refine g_widen (k' := 0) (n' := 0) (by omega) (by omega) ?_
          exact J273 ((-101)) (Or.inl ⟨rfl, hno⟩)
        · skip
          refine g_iload C dL_acts_259 rfl ?_
          refine g_iconst C 1 dL_acts_261 (by decide +kernel) ?_
          refine g_icmp_ge C 270 dL_acts_262 (by decide) (fun c_262 => ?_) (fun c_262 => ?_)
          · skip
            refine g_aload_n C dL_acts_270 rfl ?_
            refine g_iconst C 1 dL_acts_271 (by decide +kernel) ?_
            refine g_iald C 0 0 rfl rfl 1 rfl (by omega) (by decide) (nI nw) rfl dL_acts_272 ?_
            refine g_widen (k' := 0) (n' := 0) (by omega) (by omega) ?_
            exact J273 (nI nw) (Or.inr ⟨rfl, inW_of hs1 hs2 hvd c_249 c_256 c_262⟩)
          · skip
            have hno : ¬ inW rv1 rv2 vd := fun q => c_262 q.2.2.1
            refine g_bipush C (-101) dL_acts_265 (by decide +kernel) ?_
            refine g_goto C 273 dL_acts_267 (by decide) ?_
            refine g_widen (k' := 0) (n' := 0) (by omega) (by omega) ?_
            exact J273 ((-101)) (Or.inl ⟨rfl, hno⟩)
  · skip
    refine g_if_ne C 232 dL_acts_225 (by decide) (fun c_225 => ?_) (fun c_225 => ?_)
    · skip
      refine g_iconst C 1 dL_acts_232 (by decide +kernel) ?_
      refine g_iload_n C dL_acts_233 rfl ?_
      refine g_bipush C 7 dL_acts_234 (by decide +kernel) ?_
      refine g_ishr C (p2 >>> (7 &&& 31)) dL_acts_236 rfl ?_
      refine g_bipush C 10 dL_acts_237 (by decide +kernel) ?_
      refine g_callSi C (wA cI u nc nw tk ho ri lo mg pt bd cx cy ch rm on wx wy dm sv fv hd lf la ++ ((wCo cI a b d mg pt bd tk ho ri lo fv hd lf la ++ wSo cI cW a b r2 hp rl cn be bw wo) ++ wL cI cZ cG a r nc nw cx cy ch rm on wx wy dm sv mu qq)) [] [.int (p2 >>> (7 &&& 31)), .int 10] (t_L_some (by decide)) (va_cwS 2 C.ts gL_acts_L_some rfl rfl rfl (by decide +kernel) ⟨Nat.le_of_ble_eq_true rfl, Nat.le_of_ble_eq_true rfl⟩) rfl (List.append_nil _).symm rfl (Nat.le_of_ble_eq_true rfl) dL_acts_239 ⟨Nat.le_of_ble_eq_true rfl, Nat.le_of_ble_eq_true rfl⟩ (fun rv6 wv6 hp6 => ?_)
      obtain ⟨hs6, rfl⟩ := hp6
      have hs6 : tB 0 9 rv6 := some_tB hs6 (by decide)
      refine g_w (ws' := (wA cI u nc nw tk ho ri lo mg pt bd cx cy ch rm on wx wy dm sv fv hd lf la ++ ((wCo cI a b d mg pt bd tk ho ri lo fv hd lf la ++ wSo cI cW a b r2 hp rl cn be bw wo) ++ wL cI cZ cG a r nc nw cx cy ch rm on wx wy dm sv mu qq))) (List.append_nil _) ?_
      refine g_iadd C (1 + rv6) dL_acts_242 rfl ?_
      refine g_widen (k' := 0) (n' := 0) (by omega) (by omega) ?_
      exact J243 (1 + rv6) (tB_wk (tB_add (tB_k 1 1 rfl) hs6 (by decide) (by decide)) (by decide) (by decide))
    · skip
      refine g_iconst C 0 dL_acts_228 (by decide +kernel) ?_
      refine g_goto C 243 dL_acts_229 (by decide) ?_
      refine g_widen (k' := 0) (n' := 0) (by omega) (by omega) ?_
      exact J243 0 (tB_wk (tB_k 0 0 rfl) (by decide) (by decide))
set_option maxHeartbeats 8000000 in
set_option maxRecDepth 100000 in
theorem acts_k4 {l : Launch} (hl0 : l.stackTraces = false) {D : va_G} {cI cZ cJ cG cW : ClassId} {u : Nat → Nat} {nc nw : Nat} {tk ho ri lo mg pt bd : Int32} {cx cy ch rm on wx wy dm sv fv hd lf la : Nat → Int32} {a b d r2 : Nat → Nat} {hp rl cn be : Nat → Int32} {bw : Int32} {wo : Nat → Nat → Int32} {r : Nat → Nat} {mu : Nat → Int32} {qq : Nat → Nat → Int32} {p1 p2 : Int32} {p_ : Program} {e_ : Env} {s_ : State} {m_ : MethodId} {as_ : Array Value} {bl_ : List Frame} {me_ : Method} {co_ : Code} (C : CX p_ s_ m_ as_ me_ co_ cL_acts RL wsL_acts D (T5 cI cZ cJ cG cW) (va_A (wA cI u nc nw tk ho ri lo mg pt bd cx cy ch rm on wx wy dm sv fv hd lf la ++ ((wCo cI a b d mg pt bd tk ho ri lo fv hd lf la ++ wSo cI cW a b r2 hp rl cn be bw wo) ++ wL cI cZ cG a r nc nw cx cy ch rm on wx wy dm sv mu qq)) s_.heap.size) 16) (hret : me_.sig.returnType = some .boolean) (hX : XX (va_A (wA cI u nc nw tk ho ri lo mg pt bd cx cy ch rm on wx wy dm sv fv hd lf la ++ ((wCo cI a b d mg pt bd tk ho ri lo fv hd lf la ++ wSo cI cW a b r2 hp rl cn be bw wo) ++ wL cI cZ cG a r nc nw cx cy ch rm on wx wy dm sv mu qq)) s_.heap.size) s_ s_.heap) (hJ : JI nc nw cx cy ch rm on wx wy dm sv hd) :
    G p_ l e_ { frames := 12, cells := 20, slots := 120, locals := 400 } s_ m_ as_ bl_ me_ co_ D (va_A (wA cI u nc nw tk ho ri lo mg pt bd cx cy ch rm on wx wy dm sv fv hd lf la ++ ((wCo cI a b d mg pt bd tk ho ri lo fv hd lf la ++ wSo cI cW a b r2 hp rl cn be bw wo) ++ wL cI cZ cG a r nc nw cx cy ch rm on wx wy dm sv mu qq)) s_.heap.size) 16 (QXI bl_ (fun rv wv => rv = 1 ∧ ST cI cZ cG cW u a b d r r2 wv) (fun _ => False) D (T5 cI cZ cJ cG cW) (wA cI u nc nw tk ho ri lo mg pt bd cx cy ch rm on wx wy dm sv fv hd lf la ++ ((wCo cI a b d mg pt bd tk ho ri lo fv hd lf la ++ wSo cI cW a b r2 hp rl cn be bw wo) ++ wL cI cZ cG a r nc nw cx cy ch rm on wx wy dm sv mu qq)) as_ s_ 20 120) 0 0 (wA cI u nc nw tk ho ri lo mg pt bd cx cy ch rm on wx wy dm sv fv hd lf la ++ ((wCo cI a b d mg pt bd tk ho ri lo fv hd lf la ++ wSo cI cW a b r2 hp rl cn be bw wo) ++ wL cI cZ cG a r nc nw cx cy ch rm on wx wy dm sv mu qq)) [some (.ref (d 0)), some (.int p1), some (.int p2), some (.ref (u 0)), some (.ref (u 1)), some (.ref (u 2)), none, none, none, none, none, none, none, none, none, none] 641 [] := by
  have n4 := hJ.n4
  have w4 := hJ.w4
  refine g_iload_n C dL_acts_641 rfl ?_
  refine g_iconst C 3 dL_acts_642 (by decide +kernel) ?_
  refine g_ishr C (p2 >>> (3 &&& 31)) dL_acts_643 rfl ?_
  refine g_iconst C 3 dL_acts_644 (by decide +kernel) ?_
  refine g_callSi C (wA cI u nc nw tk ho ri lo mg pt bd cx cy ch rm on wx wy dm sv fv hd lf la ++ ((wCo cI a b d mg pt bd tk ho ri lo fv hd lf la ++ wSo cI cW a b r2 hp rl cn be bw wo) ++ wL cI cZ cG a r nc nw cx cy ch rm on wx wy dm sv mu qq)) [] [.int (p2 >>> (3 &&& 31)), .int 3] (t_L_some (by decide)) (va_cwS 2 C.ts gL_acts_L_some rfl rfl rfl (by decide +kernel) ⟨Nat.le_of_ble_eq_true rfl, Nat.le_of_ble_eq_true rfl⟩) rfl (List.append_nil _).symm rfl (Nat.le_of_ble_eq_true rfl) dL_acts_645 ⟨Nat.le_of_ble_eq_true rfl, Nat.le_of_ble_eq_true rfl⟩ (fun rv1 wv1 hp1 => ?_)
  obtain ⟨hs1, rfl⟩ := hp1
  have hs1 : tB 0 2 rv1 := some_tB hs1 (by decide)
  refine g_w (ws' := (wA cI u nc nw tk ho ri lo mg pt bd cx cy ch rm on wx wy dm sv fv hd lf la ++ ((wCo cI a b d mg pt bd tk ho ri lo fv hd lf la ++ wSo cI cW a b r2 hp rl cn be bw wo) ++ wL cI cZ cG a r nc nw cx cy ch rm on wx wy dm sv mu qq))) (List.append_nil _) ?_
  obtain ⟨mw, hmw, rfl⟩ := nI_tB (N := 2) hs1
  rcases (show mw = 0 ∨ mw = 1 ∨ mw = 2 by omega) with rfl | rfl | rfl
  · skip
    refine g_st (st' := [.int 0]) rfl ?_
    refine g_istore C [some (.ref (d 0)), some (.int p1), some (.int p2), some (.ref (u 0)), some (.ref (u 1)), some (.ref (u 2)), none, none, some (.int 0), none, none, none, none, none, none, none] dL_acts_648 (by decide) rfl rfl ?_
    refine g_iload_n C dL_acts_650 rfl ?_
    refine g_bipush C 8 dL_acts_651 (by decide +kernel) ?_
    refine g_ishr C (p2 >>> (8 &&& 31)) dL_acts_653 rfl ?_
    refine g_bipush C 12 dL_acts_654 (by decide +kernel) ?_
    refine g_callSi C (wA cI u nc nw tk ho ri lo mg pt bd cx cy ch rm on wx wy dm sv fv hd lf la ++ ((wCo cI a b d mg pt bd tk ho ri lo fv hd lf la ++ wSo cI cW a b r2 hp rl cn be bw wo) ++ wL cI cZ cG a r nc nw cx cy ch rm on wx wy dm sv mu qq)) [] [.int (p2 >>> (8 &&& 31)), .int 12] (t_L_some (by decide)) (va_cwS 2 C.ts gL_acts_L_some rfl rfl rfl (by decide +kernel) ⟨Nat.le_of_ble_eq_true rfl, Nat.le_of_ble_eq_true rfl⟩) rfl (List.append_nil _).symm rfl (Nat.le_of_ble_eq_true rfl) dL_acts_656 ⟨Nat.le_of_ble_eq_true rfl, Nat.le_of_ble_eq_true rfl⟩ (fun rv2 wv2 hp2 => ?_)
    obtain ⟨hs2, rfl⟩ := hp2
    have hs2 : tB 0 11 rv2 := some_tB hs2 (by decide)
    refine g_w (ws' := (wA cI u nc nw tk ho ri lo mg pt bd cx cy ch rm on wx wy dm sv fv hd lf la ++ ((wCo cI a b d mg pt bd tk ho ri lo fv hd lf la ++ wSo cI cW a b r2 hp rl cn be bw wo) ++ wL cI cZ cG a r nc nw cx cy ch rm on wx wy dm sv mu qq))) (List.append_nil _) ?_
    refine g_join (σ := Int32) (fun vv : Int32 => vv = -1 ∨ tB 0 89 vv) (fun vv : Int32 => (wA cI u nc nw tk ho ri lo mg pt bd cx cy ch rm on wx wy dm sv fv hd lf la ++ ((wCo cI a b d mg pt bd tk ho ri lo fv hd lf la ++ wSo cI cW a b r2 hp rl cn be bw wo) ++ wL cI cZ cG a r nc nw cx cy ch rm on wx wy dm sv mu qq))) (fun vv : Int32 => [some (.ref (d 0)), some (.int p1), some (.int p2), some (.ref (u 0)), some (.ref (u 1)), some (.ref (u 2)), none, none, some (.int 0), none, none, none, none, none, none, none]) (fun vv : Int32 => [.int vv]) 711 (0) (0) (fun vv hvv => ?_) (fun J711 => ?_)
    · skip
      rcases hvv with rfl | hvv
      · skip
        refine g_istore C [some (.ref (d 0)), some (.int p1), some (.int p2), some (.ref (u 0)), some (.ref (u 1)), some (.ref (u 2)), none, none, some (.int 0), some (.int ((-1))), none, none, none, none, none, none] dL_acts_711 (by decide) rfl rfl ?_
        refine g_aload_n C dL_acts_713 rfl ?_
        refine g_bipush C 6 dL_acts_714 (by decide +kernel) ?_
        refine g_iload C dL_acts_716 rfl ?_
        refine g_iadd C 6 dL_acts_718 (by decide) ?_
        refine g_iald C 0 0 rfl rfl 6 rfl (by omega) (by decide) mg rfl dL_acts_719 ?_
        refine g_istore C [some (.ref (d 0)), some (.int p1), some (.int p2), some (.ref (u 0)), some (.ref (u 1)), some (.ref (u 2)), none, none, some (.int 0), some (.int ((-1))), some (.int mg), none, none, none, none, none] dL_acts_720 (by decide) rfl rfl ?_
        refine g_aload_n C dL_acts_722 rfl ?_
        refine g_bipush C 6 dL_acts_723 (by decide +kernel) ?_
        refine g_iload C dL_acts_725 rfl ?_
        refine g_iadd C 6 dL_acts_727 (by decide) ?_
        refine g_iload C dL_acts_728 rfl ?_
        refine g_if_ge C 738 dL_acts_730 (by decide) (fun c9 => absurd c9 (by decide)) (fun _ => ?_)
        refine g_iload C dL_acts_733 rfl ?_
        refine g_goto C 740 dL_acts_735 (by decide) ?_
        refine g_iast C 0 0 rfl rfl 6 rfl (by omega) (by decide) (wA cI u nc nw tk ho ri lo mg pt bd cx cy ch rm on wx wy dm sv fv hd lf la ++ ((wCo cI a b d mg pt bd tk ho ri lo fv hd lf la ++ wSo cI cW a b r2 hp rl cn be bw wo) ++ wL cI cZ cG a r nc nw cx cy ch rm on wx wy dm sv mu qq)) (by rw [uc_6]; rfl) dL_acts_740 ?_
        refine g_aload_n C dL_acts_741 rfl ?_
        refine g_iload C dL_acts_742 rfl ?_
        refine g_iload C dL_acts_744 rfl ?_
        refine gx_callH C hX (wA cI u nc nw tk ho ri lo mg pt bd cx cy ch rm on wx wy dm sv fv hd lf la) ((wCo cI a b d mg pt bd tk ho ri lo fv hd lf la ++ wSo cI cW a b r2 hp rl cn be bw wo) ++ wL cI cZ cG a r nc nw cx cy ch rm on wx wy dm sv mu qq) [.ref (d 0), .int 0, .int ((-1))] (t_L_set_0 hl0) (vx_cwSW 3 C.ts gL_acts_L_set rfl rfl rfl (by decide +kernel) ⟨Nat.le_of_ble_eq_true rfl, Nat.le_of_ble_eq_true rfl⟩) rfl rfl rfl (Nat.le_of_ble_eq_true rfl) dL_acts_746 ⟨Nat.le_of_ble_eq_true rfl, Nat.le_of_ble_eq_true rfl⟩ (fun rv3 wv3 hp3 => ?_)
        obtain ⟨rfl, rfl⟩ : rv3 = -101 ∧ wv3 = ((wCo cI a b d mg pt bd tk ho ri lo fv hd lf la ++ wSo cI cW a b r2 hp rl cn be bw wo) ++ wL cI cZ cG a r nc nw cx cy ch rm on wx wy dm sv mu qq) := by
          rcases hp3 with ⟨_, hb, _⟩ | ⟨h1, _, h2⟩
          · exact absurd hb.1 (by decide)
          · exact ⟨h1, h2⟩
        refine g_iload C dL_acts_749 rfl ?_
        refine g_if_ge C 759 dL_acts_751 (by decide) (fun c9 => absurd c9 (by decide)) (fun _ => ?_)
        refine g_bipush C (-101) dL_acts_754 (by decide +kernel) ?_
        refine g_goto C 761 dL_acts_756 (by decide) ?_
        refine g_icmp_ne C 768 dL_acts_761 (by decide) (fun c9 => absurd rfl c9) (fun _ => ?_)
        refine g_iconst C 1 dL_acts_764 (by decide +kernel) ?_
        refine g_goto C 769 dL_acts_765 (by decide) ?_
        exact gx_I (g_zret C hret (by decide +kernel) dL_acts_769 (Nat.le_of_ble_eq_true rfl) (Nat.le_of_ble_eq_true rfl) ⟨rfl, ST_mk hJ⟩)
      · skip
        refine g_istore C [some (.ref (d 0)), some (.int p1), some (.int p2), some (.ref (u 0)), some (.ref (u 1)), some (.ref (u 2)), none, none, some (.int 0), some (.int vv), none, none, none, none, none, none] dL_acts_711 (by decide) rfl rfl ?_
        refine g_aload_n C dL_acts_713 rfl ?_
        refine g_bipush C 6 dL_acts_714 (by decide +kernel) ?_
        refine g_iload C dL_acts_716 rfl ?_
        refine g_iadd C 6 dL_acts_718 (by decide) ?_
        refine g_iald C 0 0 rfl rfl 6 rfl (by omega) (by decide) mg rfl dL_acts_719 ?_
        refine g_istore C [some (.ref (d 0)), some (.int p1), some (.int p2), some (.ref (u 0)), some (.ref (u 1)), some (.ref (u 2)), none, none, some (.int 0), some (.int vv), some (.int mg), none, none, none, none, none] dL_acts_720 (by decide) rfl rfl ?_
        refine g_aload_n C dL_acts_722 rfl ?_
        refine g_bipush C 6 dL_acts_723 (by decide +kernel) ?_
        refine g_iload C dL_acts_725 rfl ?_
        refine g_iadd C 6 dL_acts_727 (by decide) ?_
        refine g_iload C dL_acts_728 rfl ?_
        refine g_if_ge C 738 dL_acts_730 (by decide) (fun _ => ?_) (fun c9 => absurd (i_le.mpr (Int.le_trans (by decide) hvv.1)) c9)
        refine g_iload C dL_acts_738 rfl ?_
        refine g_iast C 0 0 rfl rfl 6 rfl (by omega) (by decide) (wA cI u nc nw tk ho ri lo vv pt bd cx cy ch rm on wx wy dm sv fv hd lf la ++ ((wCo cI a b d mg pt bd tk ho ri lo fv hd lf la ++ wSo cI cW a b r2 hp rl cn be bw wo) ++ wL cI cZ cG a r nc nw cx cy ch rm on wx wy dm sv mu qq)) (by rw [uc_6]; rfl) dL_acts_740 ?_
        refine g_aload_n C dL_acts_741 rfl ?_
        refine g_iload C dL_acts_742 rfl ?_
        refine g_iload C dL_acts_744 rfl ?_
        refine gx_callH C hX (wA cI u nc nw tk ho ri lo vv pt bd cx cy ch rm on wx wy dm sv fv hd lf la) ((wCo cI a b d mg pt bd tk ho ri lo fv hd lf la ++ wSo cI cW a b r2 hp rl cn be bw wo) ++ wL cI cZ cG a r nc nw cx cy ch rm on wx wy dm sv mu qq) [.ref (d 0), .int 0, .int vv] (t_L_set_0 hl0) (vx_cwSW 3 C.ts gL_acts_L_set rfl rfl rfl (by decide +kernel) ⟨Nat.le_of_ble_eq_true rfl, Nat.le_of_ble_eq_true rfl⟩) rfl rfl rfl (Nat.le_of_ble_eq_true rfl) dL_acts_746 ⟨Nat.le_of_ble_eq_true rfl, Nat.le_of_ble_eq_true rfl⟩ (fun rv4 wv4 hp4 => ?_)
        obtain ⟨rfl, rfl⟩ : rv4 = mg ∧ wv4 = ((wCo cI a b d vv pt bd tk ho ri lo fv hd lf la ++ wSo cI cW a b r2 hp rl cn be bw wo) ++ wL cI cZ cG a r nc nw cx cy ch rm on wx wy dm sv mu qq) := by
          rcases hp4 with ⟨h1, _, h2⟩ | ⟨_, hb, _⟩
          · exact ⟨h1, h2⟩
          · exact absurd ⟨i_le.mpr (Int.le_trans (by decide) hvv.1), i_le.mpr (Int.le_trans hvv.2 (by decide))⟩ hb
        refine g_iload C dL_acts_749 rfl ?_
        refine g_if_ge C 759 dL_acts_751 (by decide) (fun _ => ?_) (fun c9 => absurd (i_le.mpr (Int.le_trans (by decide) hvv.1)) c9)
        refine g_iload C dL_acts_759 rfl ?_
        refine g_icmp_ne C 768 dL_acts_761 (by decide) (fun c9 => absurd rfl c9) (fun _ => ?_)
        refine g_iconst C 1 dL_acts_764 (by decide +kernel) ?_
        refine g_goto C 769 dL_acts_765 (by decide) ?_
        exact gx_I (g_zret C hret (by decide +kernel) dL_acts_769 (Nat.le_of_ble_eq_true rfl) (Nat.le_of_ble_eq_true rfl) ⟨rfl, ST_mk hJ⟩)
    · skip
      refine g_if_ne C 666 dL_acts_659 (by decide) (fun c_659 => ?_) (fun c_659 => ?_)
      · skip
        refine g_iload C dL_acts_666 rfl ?_
        refine g_if_ne C 682 dL_acts_668 (by decide) (fun c9 => absurd rfl c9) (fun _ => ?_)
        refine g_iload_n C dL_acts_671 rfl ?_
        refine g_iconst C 5 dL_acts_672 (by decide +kernel) ?_
        refine g_ishr C (p2 >>> (5 &&& 31)) dL_acts_673 rfl ?_
        refine g_bipush C 90 dL_acts_674 (by decide +kernel) ?_
        refine g_callSi C (wA cI u nc nw tk ho ri lo mg pt bd cx cy ch rm on wx wy dm sv fv hd lf la ++ ((wCo cI a b d mg pt bd tk ho ri lo fv hd lf la ++ wSo cI cW a b r2 hp rl cn be bw wo) ++ wL cI cZ cG a r nc nw cx cy ch rm on wx wy dm sv mu qq)) [] [.int (p2 >>> (5 &&& 31)), .int 90] (t_L_some (by decide)) (va_cwS 2 C.ts gL_acts_L_some rfl rfl rfl (by decide +kernel) ⟨Nat.le_of_ble_eq_true rfl, Nat.le_of_ble_eq_true rfl⟩) rfl (List.append_nil _).symm rfl (Nat.le_of_ble_eq_true rfl) dL_acts_676 ⟨Nat.le_of_ble_eq_true rfl, Nat.le_of_ble_eq_true rfl⟩ (fun rv5 wv5 hp5 => ?_)
        obtain ⟨hs5, rfl⟩ := hp5
        have hs5 : tB 0 89 rv5 := some_tB hs5 (by decide)
        refine g_w (ws' := (wA cI u nc nw tk ho ri lo mg pt bd cx cy ch rm on wx wy dm sv fv hd lf la ++ ((wCo cI a b d mg pt bd tk ho ri lo fv hd lf la ++ wSo cI cW a b r2 hp rl cn be bw wo) ++ wL cI cZ cG a r nc nw cx cy ch rm on wx wy dm sv mu qq))) (List.append_nil _) ?_
        refine g_goto C 711 dL_acts_679 (by decide) ?_
        refine g_widen (k' := 0) (n' := 0) (by omega) (by omega) ?_
        exact J711 rv5 (Or.inr (tB_wk hs5 (by decide) (by decide)))
      · skip
        refine g_iconst C (-1) dL_acts_662 (by decide +kernel) ?_
        refine g_goto C 711 dL_acts_663 (by decide) ?_
        refine g_widen (k' := 0) (n' := 0) (by omega) (by omega) ?_
        exact J711 ((-1)) (Or.inl rfl)
  · skip
    refine g_st (st' := [.int 1]) rfl ?_
    refine g_istore C [some (.ref (d 0)), some (.int p1), some (.int p2), some (.ref (u 0)), some (.ref (u 1)), some (.ref (u 2)), none, none, some (.int 1), none, none, none, none, none, none, none] dL_acts_648 (by decide) rfl rfl ?_
    refine g_iload_n C dL_acts_650 rfl ?_
    refine g_bipush C 8 dL_acts_651 (by decide +kernel) ?_
    refine g_ishr C (p2 >>> (8 &&& 31)) dL_acts_653 rfl ?_
    refine g_bipush C 12 dL_acts_654 (by decide +kernel) ?_
    refine g_callSi C (wA cI u nc nw tk ho ri lo mg pt bd cx cy ch rm on wx wy dm sv fv hd lf la ++ ((wCo cI a b d mg pt bd tk ho ri lo fv hd lf la ++ wSo cI cW a b r2 hp rl cn be bw wo) ++ wL cI cZ cG a r nc nw cx cy ch rm on wx wy dm sv mu qq)) [] [.int (p2 >>> (8 &&& 31)), .int 12] (t_L_some (by decide)) (va_cwS 2 C.ts gL_acts_L_some rfl rfl rfl (by decide +kernel) ⟨Nat.le_of_ble_eq_true rfl, Nat.le_of_ble_eq_true rfl⟩) rfl (List.append_nil _).symm rfl (Nat.le_of_ble_eq_true rfl) dL_acts_656 ⟨Nat.le_of_ble_eq_true rfl, Nat.le_of_ble_eq_true rfl⟩ (fun rv6 wv6 hp6 => ?_)
    obtain ⟨hs6, rfl⟩ := hp6
    have hs6 : tB 0 11 rv6 := some_tB hs6 (by decide)
    refine g_w (ws' := (wA cI u nc nw tk ho ri lo mg pt bd cx cy ch rm on wx wy dm sv fv hd lf la ++ ((wCo cI a b d mg pt bd tk ho ri lo fv hd lf la ++ wSo cI cW a b r2 hp rl cn be bw wo) ++ wL cI cZ cG a r nc nw cx cy ch rm on wx wy dm sv mu qq))) (List.append_nil _) ?_
    refine g_join (σ := Int32) (fun vv : Int32 => vv = -1 ∨ tB 1 4 vv) (fun vv : Int32 => (wA cI u nc nw tk ho ri lo mg pt bd cx cy ch rm on wx wy dm sv fv hd lf la ++ ((wCo cI a b d mg pt bd tk ho ri lo fv hd lf la ++ wSo cI cW a b r2 hp rl cn be bw wo) ++ wL cI cZ cG a r nc nw cx cy ch rm on wx wy dm sv mu qq))) (fun vv : Int32 => [some (.ref (d 0)), some (.int p1), some (.int p2), some (.ref (u 0)), some (.ref (u 1)), some (.ref (u 2)), none, none, some (.int 1), none, none, none, none, none, none, none]) (fun vv : Int32 => [.int vv]) 711 (0) (0) (fun vv hvv => ?_) (fun J711 => ?_)
    · skip
      rcases hvv with rfl | hvv
      · skip
        refine g_istore C [some (.ref (d 0)), some (.int p1), some (.int p2), some (.ref (u 0)), some (.ref (u 1)), some (.ref (u 2)), none, none, some (.int 1), some (.int ((-1))), none, none, none, none, none, none] dL_acts_711 (by decide) rfl rfl ?_
        refine g_aload_n C dL_acts_713 rfl ?_
        refine g_bipush C 6 dL_acts_714 (by decide +kernel) ?_
        refine g_iload C dL_acts_716 rfl ?_
        refine g_iadd C 7 dL_acts_718 (by decide) ?_
        refine g_iald C 0 0 rfl rfl 7 rfl (by omega) (by decide) pt rfl dL_acts_719 ?_
        refine g_istore C [some (.ref (d 0)), some (.int p1), some (.int p2), some (.ref (u 0)), some (.ref (u 1)), some (.ref (u 2)), none, none, some (.int 1), some (.int ((-1))), some (.int pt), none, none, none, none, none] dL_acts_720 (by decide) rfl rfl ?_
        refine g_aload_n C dL_acts_722 rfl ?_
        refine g_bipush C 6 dL_acts_723 (by decide +kernel) ?_
        refine g_iload C dL_acts_725 rfl ?_
        refine g_iadd C 7 dL_acts_727 (by decide) ?_
        refine g_iload C dL_acts_728 rfl ?_
        refine g_if_ge C 738 dL_acts_730 (by decide) (fun c9 => absurd c9 (by decide)) (fun _ => ?_)
        refine g_iload C dL_acts_733 rfl ?_
        refine g_goto C 740 dL_acts_735 (by decide) ?_
        refine g_iast C 0 0 rfl rfl 7 rfl (by omega) (by decide) (wA cI u nc nw tk ho ri lo mg pt bd cx cy ch rm on wx wy dm sv fv hd lf la ++ ((wCo cI a b d mg pt bd tk ho ri lo fv hd lf la ++ wSo cI cW a b r2 hp rl cn be bw wo) ++ wL cI cZ cG a r nc nw cx cy ch rm on wx wy dm sv mu qq)) (by rw [uc_7]; rfl) dL_acts_740 ?_
        refine g_aload_n C dL_acts_741 rfl ?_
        refine g_iload C dL_acts_742 rfl ?_
        refine g_iload C dL_acts_744 rfl ?_
        refine gx_callH C hX (wA cI u nc nw tk ho ri lo mg pt bd cx cy ch rm on wx wy dm sv fv hd lf la) ((wCo cI a b d mg pt bd tk ho ri lo fv hd lf la ++ wSo cI cW a b r2 hp rl cn be bw wo) ++ wL cI cZ cG a r nc nw cx cy ch rm on wx wy dm sv mu qq) [.ref (d 0), .int 1, .int ((-1))] (t_L_set_1 hl0) (vx_cwSW 3 C.ts gL_acts_L_set rfl rfl rfl (by decide +kernel) ⟨Nat.le_of_ble_eq_true rfl, Nat.le_of_ble_eq_true rfl⟩) rfl rfl rfl (Nat.le_of_ble_eq_true rfl) dL_acts_746 ⟨Nat.le_of_ble_eq_true rfl, Nat.le_of_ble_eq_true rfl⟩ (fun rv7 wv7 hp7 => ?_)
        obtain ⟨rfl, rfl⟩ : rv7 = -101 ∧ wv7 = ((wCo cI a b d mg pt bd tk ho ri lo fv hd lf la ++ wSo cI cW a b r2 hp rl cn be bw wo) ++ wL cI cZ cG a r nc nw cx cy ch rm on wx wy dm sv mu qq) := by
          rcases hp7 with ⟨_, hb, _⟩ | ⟨h1, _, h2⟩
          · exact absurd hb.1 (by decide)
          · exact ⟨h1, h2⟩
        refine g_iload C dL_acts_749 rfl ?_
        refine g_if_ge C 759 dL_acts_751 (by decide) (fun c9 => absurd c9 (by decide)) (fun _ => ?_)
        refine g_bipush C (-101) dL_acts_754 (by decide +kernel) ?_
        refine g_goto C 761 dL_acts_756 (by decide) ?_
        refine g_icmp_ne C 768 dL_acts_761 (by decide) (fun c9 => absurd rfl c9) (fun _ => ?_)
        refine g_iconst C 1 dL_acts_764 (by decide +kernel) ?_
        refine g_goto C 769 dL_acts_765 (by decide) ?_
        exact gx_I (g_zret C hret (by decide +kernel) dL_acts_769 (Nat.le_of_ble_eq_true rfl) (Nat.le_of_ble_eq_true rfl) ⟨rfl, ST_mk hJ⟩)
      · skip
        refine g_istore C [some (.ref (d 0)), some (.int p1), some (.int p2), some (.ref (u 0)), some (.ref (u 1)), some (.ref (u 2)), none, none, some (.int 1), some (.int vv), none, none, none, none, none, none] dL_acts_711 (by decide) rfl rfl ?_
        refine g_aload_n C dL_acts_713 rfl ?_
        refine g_bipush C 6 dL_acts_714 (by decide +kernel) ?_
        refine g_iload C dL_acts_716 rfl ?_
        refine g_iadd C 7 dL_acts_718 (by decide) ?_
        refine g_iald C 0 0 rfl rfl 7 rfl (by omega) (by decide) pt rfl dL_acts_719 ?_
        refine g_istore C [some (.ref (d 0)), some (.int p1), some (.int p2), some (.ref (u 0)), some (.ref (u 1)), some (.ref (u 2)), none, none, some (.int 1), some (.int vv), some (.int pt), none, none, none, none, none] dL_acts_720 (by decide) rfl rfl ?_
        refine g_aload_n C dL_acts_722 rfl ?_
        refine g_bipush C 6 dL_acts_723 (by decide +kernel) ?_
        refine g_iload C dL_acts_725 rfl ?_
        refine g_iadd C 7 dL_acts_727 (by decide) ?_
        refine g_iload C dL_acts_728 rfl ?_
        refine g_if_ge C 738 dL_acts_730 (by decide) (fun _ => ?_) (fun c9 => absurd (i_le.mpr (Int.le_trans (by decide) hvv.1)) c9)
        refine g_iload C dL_acts_738 rfl ?_
        refine g_iast C 0 0 rfl rfl 7 rfl (by omega) (by decide) (wA cI u nc nw tk ho ri lo mg vv bd cx cy ch rm on wx wy dm sv fv hd lf la ++ ((wCo cI a b d mg pt bd tk ho ri lo fv hd lf la ++ wSo cI cW a b r2 hp rl cn be bw wo) ++ wL cI cZ cG a r nc nw cx cy ch rm on wx wy dm sv mu qq)) (by rw [uc_7]; rfl) dL_acts_740 ?_
        refine g_aload_n C dL_acts_741 rfl ?_
        refine g_iload C dL_acts_742 rfl ?_
        refine g_iload C dL_acts_744 rfl ?_
        refine gx_callH C hX (wA cI u nc nw tk ho ri lo mg vv bd cx cy ch rm on wx wy dm sv fv hd lf la) ((wCo cI a b d mg pt bd tk ho ri lo fv hd lf la ++ wSo cI cW a b r2 hp rl cn be bw wo) ++ wL cI cZ cG a r nc nw cx cy ch rm on wx wy dm sv mu qq) [.ref (d 0), .int 1, .int vv] (t_L_set_1 hl0) (vx_cwSW 3 C.ts gL_acts_L_set rfl rfl rfl (by decide +kernel) ⟨Nat.le_of_ble_eq_true rfl, Nat.le_of_ble_eq_true rfl⟩) rfl rfl rfl (Nat.le_of_ble_eq_true rfl) dL_acts_746 ⟨Nat.le_of_ble_eq_true rfl, Nat.le_of_ble_eq_true rfl⟩ (fun rv8 wv8 hp8 => ?_)
        obtain ⟨rfl, rfl⟩ : rv8 = pt ∧ wv8 = ((wCo cI a b d mg vv bd tk ho ri lo fv hd lf la ++ wSo cI cW a b r2 hp rl cn be bw wo) ++ wL cI cZ cG a r nc nw cx cy ch rm on wx wy dm sv mu qq) := by
          rcases hp8 with ⟨h1, _, h2⟩ | ⟨_, hb, _⟩
          · exact ⟨h1, h2⟩
          · exact absurd ⟨i_le.mpr (Int.le_trans (by decide) hvv.1), i_le.mpr (Int.le_trans hvv.2 (by decide))⟩ hb
        refine g_iload C dL_acts_749 rfl ?_
        refine g_if_ge C 759 dL_acts_751 (by decide) (fun _ => ?_) (fun c9 => absurd (i_le.mpr (Int.le_trans (by decide) hvv.1)) c9)
        refine g_iload C dL_acts_759 rfl ?_
        refine g_icmp_ne C 768 dL_acts_761 (by decide) (fun c9 => absurd rfl c9) (fun _ => ?_)
        refine g_iconst C 1 dL_acts_764 (by decide +kernel) ?_
        refine g_goto C 769 dL_acts_765 (by decide) ?_
        exact gx_I (g_zret C hret (by decide +kernel) dL_acts_769 (Nat.le_of_ble_eq_true rfl) (Nat.le_of_ble_eq_true rfl) ⟨rfl, ST_mk hJ⟩)
    · skip
      refine g_if_ne C 666 dL_acts_659 (by decide) (fun c_659 => ?_) (fun c_659 => ?_)
      · skip
        refine g_iload C dL_acts_666 rfl ?_
        refine g_if_ne C 682 dL_acts_668 (by decide) (fun _ => ?_) (fun c9 => absurd c9 (by decide))
        refine g_iload C dL_acts_682 rfl ?_
        refine g_iconst C 1 dL_acts_684 (by decide +kernel) ?_
        refine g_icmp_ne C 700 dL_acts_685 (by decide) (fun c9 => absurd rfl c9) (fun _ => ?_)
        refine g_iconst C 1 dL_acts_688 (by decide +kernel) ?_
        refine g_iload_n C dL_acts_689 rfl ?_
        refine g_iconst C 5 dL_acts_690 (by decide +kernel) ?_
        refine g_ishr C (p2 >>> (5 &&& 31)) dL_acts_691 rfl ?_
        refine g_iconst C 4 dL_acts_692 (by decide +kernel) ?_
        refine g_callSi C (wA cI u nc nw tk ho ri lo mg pt bd cx cy ch rm on wx wy dm sv fv hd lf la ++ ((wCo cI a b d mg pt bd tk ho ri lo fv hd lf la ++ wSo cI cW a b r2 hp rl cn be bw wo) ++ wL cI cZ cG a r nc nw cx cy ch rm on wx wy dm sv mu qq)) [] [.int (p2 >>> (5 &&& 31)), .int 4] (t_L_some (by decide)) (va_cwS 2 C.ts gL_acts_L_some rfl rfl rfl (by decide +kernel) ⟨Nat.le_of_ble_eq_true rfl, Nat.le_of_ble_eq_true rfl⟩) rfl (List.append_nil _).symm rfl (Nat.le_of_ble_eq_true rfl) dL_acts_693 ⟨Nat.le_of_ble_eq_true rfl, Nat.le_of_ble_eq_true rfl⟩ (fun rv9 wv9 hp9 => ?_)
        obtain ⟨hs9, rfl⟩ := hp9
        have hs9 : tB 0 3 rv9 := some_tB hs9 (by decide)
        refine g_w (ws' := (wA cI u nc nw tk ho ri lo mg pt bd cx cy ch rm on wx wy dm sv fv hd lf la ++ ((wCo cI a b d mg pt bd tk ho ri lo fv hd lf la ++ wSo cI cW a b r2 hp rl cn be bw wo) ++ wL cI cZ cG a r nc nw cx cy ch rm on wx wy dm sv mu qq))) (List.append_nil _) ?_
        refine g_iadd C (1 + rv9) dL_acts_696 rfl ?_
        refine g_goto C 711 dL_acts_697 (by decide) ?_
        refine g_widen (k' := 0) (n' := 0) (by omega) (by omega) ?_
        exact J711 (1 + rv9) (Or.inr (tB_wk (tB_add (tB_k 1 1 rfl) hs9 (by decide) (by decide)) (by decide) (by decide)))
      · skip
        refine g_iconst C (-1) dL_acts_662 (by decide +kernel) ?_
        refine g_goto C 711 dL_acts_663 (by decide) ?_
        refine g_widen (k' := 0) (n' := 0) (by omega) (by omega) ?_
        exact J711 ((-1)) (Or.inl rfl)
  · skip
    refine g_st (st' := [.int 2]) rfl ?_
    refine g_istore C [some (.ref (d 0)), some (.int p1), some (.int p2), some (.ref (u 0)), some (.ref (u 1)), some (.ref (u 2)), none, none, some (.int 2), none, none, none, none, none, none, none] dL_acts_648 (by decide) rfl rfl ?_
    refine g_iload_n C dL_acts_650 rfl ?_
    refine g_bipush C 8 dL_acts_651 (by decide +kernel) ?_
    refine g_ishr C (p2 >>> (8 &&& 31)) dL_acts_653 rfl ?_
    refine g_bipush C 12 dL_acts_654 (by decide +kernel) ?_
    refine g_callSi C (wA cI u nc nw tk ho ri lo mg pt bd cx cy ch rm on wx wy dm sv fv hd lf la ++ ((wCo cI a b d mg pt bd tk ho ri lo fv hd lf la ++ wSo cI cW a b r2 hp rl cn be bw wo) ++ wL cI cZ cG a r nc nw cx cy ch rm on wx wy dm sv mu qq)) [] [.int (p2 >>> (8 &&& 31)), .int 12] (t_L_some (by decide)) (va_cwS 2 C.ts gL_acts_L_some rfl rfl rfl (by decide +kernel) ⟨Nat.le_of_ble_eq_true rfl, Nat.le_of_ble_eq_true rfl⟩) rfl (List.append_nil _).symm rfl (Nat.le_of_ble_eq_true rfl) dL_acts_656 ⟨Nat.le_of_ble_eq_true rfl, Nat.le_of_ble_eq_true rfl⟩ (fun rv10 wv10 hp10 => ?_)
    obtain ⟨hs10, rfl⟩ := hp10
    have hs10 : tB 0 11 rv10 := some_tB hs10 (by decide)
    refine g_w (ws' := (wA cI u nc nw tk ho ri lo mg pt bd cx cy ch rm on wx wy dm sv fv hd lf la ++ ((wCo cI a b d mg pt bd tk ho ri lo fv hd lf la ++ wSo cI cW a b r2 hp rl cn be bw wo) ++ wL cI cZ cG a r nc nw cx cy ch rm on wx wy dm sv mu qq))) (List.append_nil _) ?_
    refine g_join (σ := Int32) (fun vv : Int32 => vv = -1 ∨ tB 1 900 vv) (fun vv : Int32 => (wA cI u nc nw tk ho ri lo mg pt bd cx cy ch rm on wx wy dm sv fv hd lf la ++ ((wCo cI a b d mg pt bd tk ho ri lo fv hd lf la ++ wSo cI cW a b r2 hp rl cn be bw wo) ++ wL cI cZ cG a r nc nw cx cy ch rm on wx wy dm sv mu qq))) (fun vv : Int32 => [some (.ref (d 0)), some (.int p1), some (.int p2), some (.ref (u 0)), some (.ref (u 1)), some (.ref (u 2)), none, none, some (.int 2), none, none, none, none, none, none, none]) (fun vv : Int32 => [.int vv]) 711 (0) (0) (fun vv hvv => ?_) (fun J711 => ?_)
    · skip
      rcases hvv with rfl | hvv
      · skip
        refine g_istore C [some (.ref (d 0)), some (.int p1), some (.int p2), some (.ref (u 0)), some (.ref (u 1)), some (.ref (u 2)), none, none, some (.int 2), some (.int ((-1))), none, none, none, none, none, none] dL_acts_711 (by decide) rfl rfl ?_
        refine g_aload_n C dL_acts_713 rfl ?_
        refine g_bipush C 6 dL_acts_714 (by decide +kernel) ?_
        refine g_iload C dL_acts_716 rfl ?_
        refine g_iadd C 8 dL_acts_718 (by decide) ?_
        refine g_iald C 0 0 rfl rfl 8 rfl (by omega) (by decide) bd rfl dL_acts_719 ?_
        refine g_istore C [some (.ref (d 0)), some (.int p1), some (.int p2), some (.ref (u 0)), some (.ref (u 1)), some (.ref (u 2)), none, none, some (.int 2), some (.int ((-1))), some (.int bd), none, none, none, none, none] dL_acts_720 (by decide) rfl rfl ?_
        refine g_aload_n C dL_acts_722 rfl ?_
        refine g_bipush C 6 dL_acts_723 (by decide +kernel) ?_
        refine g_iload C dL_acts_725 rfl ?_
        refine g_iadd C 8 dL_acts_727 (by decide) ?_
        refine g_iload C dL_acts_728 rfl ?_
        refine g_if_ge C 738 dL_acts_730 (by decide) (fun c9 => absurd c9 (by decide)) (fun _ => ?_)
        refine g_iload C dL_acts_733 rfl ?_
        refine g_goto C 740 dL_acts_735 (by decide) ?_
        refine g_iast C 0 0 rfl rfl 8 rfl (by omega) (by decide) (wA cI u nc nw tk ho ri lo mg pt bd cx cy ch rm on wx wy dm sv fv hd lf la ++ ((wCo cI a b d mg pt bd tk ho ri lo fv hd lf la ++ wSo cI cW a b r2 hp rl cn be bw wo) ++ wL cI cZ cG a r nc nw cx cy ch rm on wx wy dm sv mu qq)) (by rw [uc_8]; rfl) dL_acts_740 ?_
        refine g_aload_n C dL_acts_741 rfl ?_
        refine g_iload C dL_acts_742 rfl ?_
        refine g_iload C dL_acts_744 rfl ?_
        refine gx_callH C hX (wA cI u nc nw tk ho ri lo mg pt bd cx cy ch rm on wx wy dm sv fv hd lf la) ((wCo cI a b d mg pt bd tk ho ri lo fv hd lf la ++ wSo cI cW a b r2 hp rl cn be bw wo) ++ wL cI cZ cG a r nc nw cx cy ch rm on wx wy dm sv mu qq) [.ref (d 0), .int 2, .int ((-1))] (t_L_set_2 hl0) (vx_cwSW 3 C.ts gL_acts_L_set rfl rfl rfl (by decide +kernel) ⟨Nat.le_of_ble_eq_true rfl, Nat.le_of_ble_eq_true rfl⟩) rfl rfl rfl (Nat.le_of_ble_eq_true rfl) dL_acts_746 ⟨Nat.le_of_ble_eq_true rfl, Nat.le_of_ble_eq_true rfl⟩ (fun rv11 wv11 hp11 => ?_)
        obtain ⟨rfl, rfl⟩ : rv11 = -101 ∧ wv11 = ((wCo cI a b d mg pt bd tk ho ri lo fv hd lf la ++ wSo cI cW a b r2 hp rl cn be bw wo) ++ wL cI cZ cG a r nc nw cx cy ch rm on wx wy dm sv mu qq) := by
          rcases hp11 with ⟨_, hb, _⟩ | ⟨h1, _, h2⟩
          · exact absurd hb.1 (by decide)
          · exact ⟨h1, h2⟩
        refine g_iload C dL_acts_749 rfl ?_
        refine g_if_ge C 759 dL_acts_751 (by decide) (fun c9 => absurd c9 (by decide)) (fun _ => ?_)
        refine g_bipush C (-101) dL_acts_754 (by decide +kernel) ?_
        refine g_goto C 761 dL_acts_756 (by decide) ?_
        refine g_icmp_ne C 768 dL_acts_761 (by decide) (fun c9 => absurd rfl c9) (fun _ => ?_)
        refine g_iconst C 1 dL_acts_764 (by decide +kernel) ?_
        refine g_goto C 769 dL_acts_765 (by decide) ?_
        exact gx_I (g_zret C hret (by decide +kernel) dL_acts_769 (Nat.le_of_ble_eq_true rfl) (Nat.le_of_ble_eq_true rfl) ⟨rfl, ST_mk hJ⟩)
      · skip
        refine g_istore C [some (.ref (d 0)), some (.int p1), some (.int p2), some (.ref (u 0)), some (.ref (u 1)), some (.ref (u 2)), none, none, some (.int 2), some (.int vv), none, none, none, none, none, none] dL_acts_711 (by decide) rfl rfl ?_
        refine g_aload_n C dL_acts_713 rfl ?_
        refine g_bipush C 6 dL_acts_714 (by decide +kernel) ?_
        refine g_iload C dL_acts_716 rfl ?_
        refine g_iadd C 8 dL_acts_718 (by decide) ?_
        refine g_iald C 0 0 rfl rfl 8 rfl (by omega) (by decide) bd rfl dL_acts_719 ?_
        refine g_istore C [some (.ref (d 0)), some (.int p1), some (.int p2), some (.ref (u 0)), some (.ref (u 1)), some (.ref (u 2)), none, none, some (.int 2), some (.int vv), some (.int bd), none, none, none, none, none] dL_acts_720 (by decide) rfl rfl ?_
        refine g_aload_n C dL_acts_722 rfl ?_
        refine g_bipush C 6 dL_acts_723 (by decide +kernel) ?_
        refine g_iload C dL_acts_725 rfl ?_
        refine g_iadd C 8 dL_acts_727 (by decide) ?_
        refine g_iload C dL_acts_728 rfl ?_
        refine g_if_ge C 738 dL_acts_730 (by decide) (fun _ => ?_) (fun c9 => absurd (i_le.mpr (Int.le_trans (by decide) hvv.1)) c9)
        refine g_iload C dL_acts_738 rfl ?_
        refine g_iast C 0 0 rfl rfl 8 rfl (by omega) (by decide) (wA cI u nc nw tk ho ri lo mg pt vv cx cy ch rm on wx wy dm sv fv hd lf la ++ ((wCo cI a b d mg pt bd tk ho ri lo fv hd lf la ++ wSo cI cW a b r2 hp rl cn be bw wo) ++ wL cI cZ cG a r nc nw cx cy ch rm on wx wy dm sv mu qq)) (by rw [uc_8]; rfl) dL_acts_740 ?_
        refine g_aload_n C dL_acts_741 rfl ?_
        refine g_iload C dL_acts_742 rfl ?_
        refine g_iload C dL_acts_744 rfl ?_
        refine gx_callH C hX (wA cI u nc nw tk ho ri lo mg pt vv cx cy ch rm on wx wy dm sv fv hd lf la) ((wCo cI a b d mg pt bd tk ho ri lo fv hd lf la ++ wSo cI cW a b r2 hp rl cn be bw wo) ++ wL cI cZ cG a r nc nw cx cy ch rm on wx wy dm sv mu qq) [.ref (d 0), .int 2, .int vv] (t_L_set_2 hl0) (vx_cwSW 3 C.ts gL_acts_L_set rfl rfl rfl (by decide +kernel) ⟨Nat.le_of_ble_eq_true rfl, Nat.le_of_ble_eq_true rfl⟩) rfl rfl rfl (Nat.le_of_ble_eq_true rfl) dL_acts_746 ⟨Nat.le_of_ble_eq_true rfl, Nat.le_of_ble_eq_true rfl⟩ (fun rv12 wv12 hp12 => ?_)
        obtain ⟨rfl, rfl⟩ : rv12 = bd ∧ wv12 = ((wCo cI a b d mg pt vv tk ho ri lo fv hd lf la ++ wSo cI cW a b r2 hp rl cn be bw wo) ++ wL cI cZ cG a r nc nw cx cy ch rm on wx wy dm sv mu qq) := by
          rcases hp12 with ⟨h1, _, h2⟩ | ⟨_, hb, _⟩
          · exact ⟨h1, h2⟩
          · exact absurd ⟨i_le.mpr (Int.le_trans (by decide) hvv.1), i_le.mpr (Int.le_trans hvv.2 (by decide))⟩ hb
        refine g_iload C dL_acts_749 rfl ?_
        refine g_if_ge C 759 dL_acts_751 (by decide) (fun _ => ?_) (fun c9 => absurd (i_le.mpr (Int.le_trans (by decide) hvv.1)) c9)
        refine g_iload C dL_acts_759 rfl ?_
        refine g_icmp_ne C 768 dL_acts_761 (by decide) (fun c9 => absurd rfl c9) (fun _ => ?_)
        refine g_iconst C 1 dL_acts_764 (by decide +kernel) ?_
        refine g_goto C 769 dL_acts_765 (by decide) ?_
        exact gx_I (g_zret C hret (by decide +kernel) dL_acts_769 (Nat.le_of_ble_eq_true rfl) (Nat.le_of_ble_eq_true rfl) ⟨rfl, ST_mk hJ⟩)
    · skip
      refine g_if_ne C 666 dL_acts_659 (by decide) (fun c_659 => ?_) (fun c_659 => ?_)
      · skip
        refine g_iload C dL_acts_666 rfl ?_
        refine g_if_ne C 682 dL_acts_668 (by decide) (fun _ => ?_) (fun c9 => absurd c9 (by decide))
        refine g_iload C dL_acts_682 rfl ?_
        refine g_iconst C 1 dL_acts_684 (by decide +kernel) ?_
        refine g_icmp_ne C 700 dL_acts_685 (by decide) (fun _ => ?_) (fun c9 => absurd c9 (by decide))
        refine g_iconst C 1 dL_acts_700 (by decide +kernel) ?_
        refine g_iload_n C dL_acts_701 rfl ?_
        refine g_iconst C 5 dL_acts_702 (by decide +kernel) ?_
        refine g_ishr C (p2 >>> (5 &&& 31)) dL_acts_703 rfl ?_
        refine g_sipush C 900 dL_acts_704 (by decide +kernel) ?_
        refine g_callSi C (wA cI u nc nw tk ho ri lo mg pt bd cx cy ch rm on wx wy dm sv fv hd lf la ++ ((wCo cI a b d mg pt bd tk ho ri lo fv hd lf la ++ wSo cI cW a b r2 hp rl cn be bw wo) ++ wL cI cZ cG a r nc nw cx cy ch rm on wx wy dm sv mu qq)) [] [.int (p2 >>> (5 &&& 31)), .int 900] (t_L_some (by decide)) (va_cwS 2 C.ts gL_acts_L_some rfl rfl rfl (by decide +kernel) ⟨Nat.le_of_ble_eq_true rfl, Nat.le_of_ble_eq_true rfl⟩) rfl (List.append_nil _).symm rfl (Nat.le_of_ble_eq_true rfl) dL_acts_707 ⟨Nat.le_of_ble_eq_true rfl, Nat.le_of_ble_eq_true rfl⟩ (fun rv13 wv13 hp13 => ?_)
        obtain ⟨hs13, rfl⟩ := hp13
        have hs13 : tB 0 899 rv13 := some_tB hs13 (by decide)
        refine g_w (ws' := (wA cI u nc nw tk ho ri lo mg pt bd cx cy ch rm on wx wy dm sv fv hd lf la ++ ((wCo cI a b d mg pt bd tk ho ri lo fv hd lf la ++ wSo cI cW a b r2 hp rl cn be bw wo) ++ wL cI cZ cG a r nc nw cx cy ch rm on wx wy dm sv mu qq))) (List.append_nil _) ?_
        refine g_iadd C (1 + rv13) dL_acts_710 rfl ?_
        refine g_widen (k' := 0) (n' := 0) (by omega) (by omega) ?_
        exact J711 (1 + rv13) (Or.inr (tB_wk (tB_add (tB_k 1 1 rfl) hs13 (by decide) (by decide)) (by decide) (by decide)))
      · skip
        refine g_iconst C (-1) dL_acts_662 (by decide +kernel) ?_
        refine g_goto C 711 dL_acts_663 (by decide) ?_
        refine g_widen (k' := 0) (n' := 0) (by omega) (by omega) ?_
        exact J711 ((-1)) (Or.inl rfl)
set_option maxHeartbeats 8000000 in
set_option maxRecDepth 100000 in
theorem acts_mv {l : Launch} (hl0 : l.stackTraces = false) {D : va_G} {cI cZ cJ cG cW : ClassId} {u : Nat → Nat} {nc nw : Nat} {tk ho ri lo mg pt bd : Int32} {cx cy ch rm on wx wy dm sv fv hd lf la : Nat → Int32} {a b d r2 : Nat → Nat} {hp rl cn be : Nat → Int32} {bw : Int32} {wo : Nat → Nat → Int32} {r : Nat → Nat} {mu : Nat → Int32} {qq : Nat → Nat → Int32} {p1 p2 : Int32} {p_ : Program} {e_ : Env} {s_ : State} {m_ : MethodId} {as_ : Array Value} {bl_ : List Frame} {me_ : Method} {co_ : Code} (C : CX p_ s_ m_ as_ me_ co_ cL_acts RL wsL_acts D (T5 cI cZ cJ cG cW) (va_A (wA cI u nc nw tk ho ri lo mg pt bd cx cy ch rm on wx wy dm sv fv hd lf la ++ ((wCo cI a b d mg pt bd tk ho ri lo fv hd lf la ++ wSo cI cW a b r2 hp rl cn be bw wo) ++ wL cI cZ cG a r nc nw cx cy ch rm on wx wy dm sv mu qq)) s_.heap.size) 16) (hret : me_.sig.returnType = some .boolean) (hX : XX (va_A (wA cI u nc nw tk ho ri lo mg pt bd cx cy ch rm on wx wy dm sv fv hd lf la ++ ((wCo cI a b d mg pt bd tk ho ri lo fv hd lf la ++ wSo cI cW a b r2 hp rl cn be bw wo) ++ wL cI cZ cG a r nc nw cx cy ch rm on wx wy dm sv mu qq)) s_.heap.size) s_ s_.heap) (hJ : JI nc nw cx cy ch rm on wx wy dm sv hd) :
    G p_ l e_ { frames := 12, cells := 20, slots := 120, locals := 400 } s_ m_ as_ bl_ me_ co_ D (va_A (wA cI u nc nw tk ho ri lo mg pt bd cx cy ch rm on wx wy dm sv fv hd lf la ++ ((wCo cI a b d mg pt bd tk ho ri lo fv hd lf la ++ wSo cI cW a b r2 hp rl cn be bw wo) ++ wL cI cZ cG a r nc nw cx cy ch rm on wx wy dm sv mu qq)) s_.heap.size) 16 (QXI bl_ (fun rv wv => rv = 1 ∧ ST cI cZ cG cW u a b d r r2 wv) (fun _ => False) D (T5 cI cZ cJ cG cW) (wA cI u nc nw tk ho ri lo mg pt bd cx cy ch rm on wx wy dm sv fv hd lf la ++ ((wCo cI a b d mg pt bd tk ho ri lo fv hd lf la ++ wSo cI cW a b r2 hp rl cn be bw wo) ++ wL cI cZ cG a r nc nw cx cy ch rm on wx wy dm sv mu qq)) as_ s_ 20 120) 0 0 (wA cI u nc nw tk ho ri lo mg pt bd cx cy ch rm on wx wy dm sv fv hd lf la ++ ((wCo cI a b d mg pt bd tk ho ri lo fv hd lf la ++ wSo cI cW a b r2 hp rl cn be bw wo) ++ wL cI cZ cG a r nc nw cx cy ch rm on wx wy dm sv mu qq)) [some (.ref (d 0)), some (.int p1), some (.int p2), some (.ref (u 0)), some (.ref (u 1)), some (.ref (u 2)), none, none, none, none, none, none, none, none, none, none] 776 [] := by
  have n4 := hJ.n4
  have w4 := hJ.w4
  refine g_iload_n C dL_acts_776 rfl ?_
  refine g_aload_n C dL_acts_777 rfl ?_
  refine g_iconst C 1 dL_acts_778 (by decide +kernel) ?_
  refine g_iald C 0 0 rfl rfl 1 rfl (by omega) (by decide) (nI nw) rfl dL_acts_779 ?_
  refine g_iconst C 1 dL_acts_780 (by decide +kernel) ?_
  refine g_iadd C (nI (nw + 1)) dL_acts_781 (nI_1 nw) ?_
  refine g_callSi C (wA cI u nc nw tk ho ri lo mg pt bd cx cy ch rm on wx wy dm sv fv hd lf la ++ ((wCo cI a b d mg pt bd tk ho ri lo fv hd lf la ++ wSo cI cW a b r2 hp rl cn be bw wo) ++ wL cI cZ cG a r nc nw cx cy ch rm on wx wy dm sv mu qq)) [] [.int p2, .int (nI (nw + 1))] (t_L_some (by rw [nI_toInt (by omega)]; omega)) (va_cwS 2 C.ts gL_acts_L_some rfl rfl rfl (by decide +kernel) ⟨Nat.le_of_ble_eq_true rfl, Nat.le_of_ble_eq_true rfl⟩) rfl (List.append_nil _).symm rfl (Nat.le_of_ble_eq_true rfl) dL_acts_782 ⟨Nat.le_of_ble_eq_true rfl, Nat.le_of_ble_eq_true rfl⟩ (fun rv1 wv1 hp1 => ?_)
  obtain ⟨hs1, rfl⟩ := hp1
  refine g_w (ws' := (wA cI u nc nw tk ho ri lo mg pt bd cx cy ch rm on wx wy dm sv fv hd lf la ++ ((wCo cI a b d mg pt bd tk ho ri lo fv hd lf la ++ wSo cI cW a b r2 hp rl cn be bw wo) ++ wL cI cZ cG a r nc nw cx cy ch rm on wx wy dm sv mu qq))) (List.append_nil _) ?_
  refine g_iload_n C dL_acts_785 rfl ?_
  refine g_bipush C 9 dL_acts_786 (by decide +kernel) ?_
  refine g_ishr C (p2 >>> (9 &&& 31)) dL_acts_788 rfl ?_
  refine g_bipush C 17 dL_acts_789 (by decide +kernel) ?_
  refine g_callSi C (wA cI u nc nw tk ho ri lo mg pt bd cx cy ch rm on wx wy dm sv fv hd lf la ++ ((wCo cI a b d mg pt bd tk ho ri lo fv hd lf la ++ wSo cI cW a b r2 hp rl cn be bw wo) ++ wL cI cZ cG a r nc nw cx cy ch rm on wx wy dm sv mu qq)) [] [.int (p2 >>> (9 &&& 31)), .int 17] (t_L_some (by decide)) (va_cwS 2 C.ts gL_acts_L_some rfl rfl rfl (by decide +kernel) ⟨Nat.le_of_ble_eq_true rfl, Nat.le_of_ble_eq_true rfl⟩) rfl (List.append_nil _).symm rfl (Nat.le_of_ble_eq_true rfl) dL_acts_791 ⟨Nat.le_of_ble_eq_true rfl, Nat.le_of_ble_eq_true rfl⟩ (fun rv2 wv2 hp2 => ?_)
  obtain ⟨hs2, rfl⟩ := hp2
  have hs2 : tB 0 16 rv2 := some_tB hs2 (by decide)
  refine g_w (ws' := (wA cI u nc nw tk ho ri lo mg pt bd cx cy ch rm on wx wy dm sv fv hd lf la ++ ((wCo cI a b d mg pt bd tk ho ri lo fv hd lf la ++ wSo cI cW a b r2 hp rl cn be bw wo) ++ wL cI cZ cG a r nc nw cx cy ch rm on wx wy dm sv mu qq))) (List.append_nil _) ?_
  refine g_join (σ := Int32) (fun va : Int32 => True) (fun va : Int32 => (wA cI u nc nw tk ho ri lo mg pt bd cx cy ch rm on wx wy dm sv fv hd lf la ++ ((wCo cI a b d mg pt bd tk ho ri lo fv hd lf la ++ wSo cI cW a b r2 hp rl cn be bw wo) ++ wL cI cZ cG a r nc nw cx cy ch rm on wx wy dm sv mu qq))) (fun va : Int32 => [some (.ref (d 0)), some (.int p1), some (.int p2), some (.ref (u 0)), some (.ref (u 1)), some (.ref (u 2)), none, none, none, none, none, none, none, none, none, none]) (fun va : Int32 => [.int va]) 803 (0) (0) (fun va hva => ?_) (fun J803 => ?_)
  · skip
    refine g_istore C [some (.ref (d 0)), some (.int p1), some (.int p2), some (.ref (u 0)), some (.ref (u 1)), some (.ref (u 2)), none, none, some (.int va), none, none, none, none, none, none, none] dL_acts_803 (by decide) rfl rfl ?_
    refine g_join (σ := Int32) (fun bb : Int32 => (bb = 1 ∧ IC nw va) ∨ (bb = 0 ∧ ¬ IC nw va)) (fun bb : Int32 => (wA cI u nc nw tk ho ri lo mg pt bd cx cy ch rm on wx wy dm sv fv hd lf la ++ ((wCo cI a b d mg pt bd tk ho ri lo fv hd lf la ++ wSo cI cW a b r2 hp rl cn be bw wo) ++ wL cI cZ cG a r nc nw cx cy ch rm on wx wy dm sv mu qq))) (fun bb : Int32 => [some (.ref (d 0)), some (.int p1), some (.int p2), some (.ref (u 0)), some (.ref (u 1)), some (.ref (u 2)), none, none, some (.int va), none, none, none, none, none, none, none]) (fun bb : Int32 => [.int bb]) 823 (0) (0) (fun bb hbb => ?_) (fun J823 => ?_)
    · skip
      rcases hbb with ⟨rfl, kw, hkw, rfl⟩ | ⟨rfl, hno⟩
      · skip
        have hkl : (nI kw).toNatClampNeg = kw := nI_clamp (by omega)
        refine g_istore C [some (.ref (d 0)), some (.int p1), some (.int p2), some (.ref (u 0)), some (.ref (u 1)), some (.ref (u 2)), none, none, some (.int (nI kw)), some (.int 1), none, none, none, none, none, none] dL_acts_823 (by decide) rfl rfl ?_
        refine g_iload_n C dL_acts_825 rfl ?_
        refine g_iconst C 4 dL_acts_826 (by decide +kernel) ?_
        refine g_ishr C (p2 >>> (4 &&& 31)) dL_acts_827 rfl ?_
        refine g_bipush C 40 dL_acts_828 (by decide +kernel) ?_
        refine g_callSi C (wA cI u nc nw tk ho ri lo mg pt bd cx cy ch rm on wx wy dm sv fv hd lf la ++ ((wCo cI a b d mg pt bd tk ho ri lo fv hd lf la ++ wSo cI cW a b r2 hp rl cn be bw wo) ++ wL cI cZ cG a r nc nw cx cy ch rm on wx wy dm sv mu qq)) [] [.int (p2 >>> (4 &&& 31)), .int 40] (t_L_some (by decide)) (va_cwS 2 C.ts gL_acts_L_some rfl rfl rfl (by decide +kernel) ⟨Nat.le_of_ble_eq_true rfl, Nat.le_of_ble_eq_true rfl⟩) rfl (List.append_nil _).symm rfl (Nat.le_of_ble_eq_true rfl) dL_acts_830 ⟨Nat.le_of_ble_eq_true rfl, Nat.le_of_ble_eq_true rfl⟩ (fun rv3 wv3 hp3 => ?_)
        obtain ⟨hs3, rfl⟩ := hp3
        have hs3 : tB 0 39 rv3 := some_tB hs3 (by decide)
        refine g_w (ws' := (wA cI u nc nw tk ho ri lo mg pt bd cx cy ch rm on wx wy dm sv fv hd lf la ++ ((wCo cI a b d mg pt bd tk ho ri lo fv hd lf la ++ wSo cI cW a b r2 hp rl cn be bw wo) ++ wL cI cZ cG a r nc nw cx cy ch rm on wx wy dm sv mu qq))) (List.append_nil _) ?_
        refine g_join (σ := Int32) (fun vx : Int32 => True) (fun vx : Int32 => (wA cI u nc nw tk ho ri lo mg pt bd cx cy ch rm on wx wy dm sv fv hd lf la ++ ((wCo cI a b d mg pt bd tk ho ri lo fv hd lf la ++ wSo cI cW a b r2 hp rl cn be bw wo) ++ wL cI cZ cG a r nc nw cx cy ch rm on wx wy dm sv mu qq))) (fun vx : Int32 => [some (.ref (d 0)), some (.int p1), some (.int p2), some (.ref (u 0)), some (.ref (u 1)), some (.ref (u 2)), none, none, some (.int (nI kw)), some (.int 1), none, none, none, none, none, none]) (fun vx : Int32 => [.int vx]) 852 (0) (0) (fun vx hvx => ?_) (fun J852 => ?_)
        · skip
          refine g_istore C [some (.ref (d 0)), some (.int p1), some (.int p2), some (.ref (u 0)), some (.ref (u 1)), some (.ref (u 2)), none, none, some (.int (nI kw)), some (.int 1), some (.int vx), none, none, none, none, none] dL_acts_852 (by decide) rfl rfl ?_
          refine g_iload_n C dL_acts_854 rfl ?_
          refine g_bipush C 7 dL_acts_855 (by decide +kernel) ?_
          refine g_ishr C (p2 >>> (7 &&& 31)) dL_acts_857 rfl ?_
          refine g_bipush C 13 dL_acts_858 (by decide +kernel) ?_
          refine g_callSi C (wA cI u nc nw tk ho ri lo mg pt bd cx cy ch rm on wx wy dm sv fv hd lf la ++ ((wCo cI a b d mg pt bd tk ho ri lo fv hd lf la ++ wSo cI cW a b r2 hp rl cn be bw wo) ++ wL cI cZ cG a r nc nw cx cy ch rm on wx wy dm sv mu qq)) [] [.int (p2 >>> (7 &&& 31)), .int 13] (t_L_some (by decide)) (va_cwS 2 C.ts gL_acts_L_some rfl rfl rfl (by decide +kernel) ⟨Nat.le_of_ble_eq_true rfl, Nat.le_of_ble_eq_true rfl⟩) rfl (List.append_nil _).symm rfl (Nat.le_of_ble_eq_true rfl) dL_acts_860 ⟨Nat.le_of_ble_eq_true rfl, Nat.le_of_ble_eq_true rfl⟩ (fun rv4 wv4 hp4 => ?_)
          obtain ⟨hs4, rfl⟩ := hp4
          have hs4 : tB 0 12 rv4 := some_tB hs4 (by decide)
          refine g_w (ws' := (wA cI u nc nw tk ho ri lo mg pt bd cx cy ch rm on wx wy dm sv fv hd lf la ++ ((wCo cI a b d mg pt bd tk ho ri lo fv hd lf la ++ wSo cI cW a b r2 hp rl cn be bw wo) ++ wL cI cZ cG a r nc nw cx cy ch rm on wx wy dm sv mu qq))) (List.append_nil _) ?_
          refine g_bipush C 6 dL_acts_863 (by decide +kernel) ?_
          refine g_isub C (rv4 - 6) dL_acts_865 rfl ?_
          have hvy : tB (-6) 6 (rv4 - 6) := tB_wk (tB_sub hs4 (tB_k 6 6 rfl) (by decide) (by decide)) (by decide) (by decide)
          have hmy : mvx wy (nI kw) (rv4 - 6) = (wy kw + (rv4 - 6)).toInt64 := mvx_y (by omega) (tB_of (hJ.1.2.2.2.1 kw hkw).2.1) hvy
          have hmyi : (mvx wy (nI kw) (rv4 - 6)).toInt32 = wy kw + (rv4 - 6) := by rw [hmy, Int32.toInt32_toInt64]
          refine g_istore C [some (.ref (d 0)), some (.int p1), some (.int p2), some (.ref (u 0)), some (.ref (u 1)), some (.ref (u 2)), none, none, some (.int (nI kw)), some (.int 1), some (.int vx), some (.int (rv4 - 6)), none, none, none, none] dL_acts_866 (by decide) rfl rfl ?_
          refine g_iload C dL_acts_868 rfl ?_
          refine g_if_eq C 886 dL_acts_870 (by decide) (fun c9 => absurd c9 (by decide)) (fun _ => ?_)
          refine g_aload C dL_acts_873 rfl ?_
          refine g_iload C dL_acts_875 rfl ?_
          refine g_iald C 2 0 rfl rfl kw rfl (by omega) (by decide) (wx kw) (hA_0 (by omega)) dL_acts_877 ?_
          refine g_i2l C (Int32.toInt64 (wx kw)) dL_acts_878 rfl ?_
          refine g_iload C dL_acts_879 rfl ?_
          refine g_i2l C (Int32.toInt64 vx) dL_acts_881 rfl ?_
          refine g_ladd C (mvx wx (nI kw) vx) dL_acts_882 (mvx_k (by omega)) ?_
          refine g_goto C 887 dL_acts_883 (by decide) ?_
          refine g_lstore C [some (.ref (d 0)), some (.int p1), some (.int p2), some (.ref (u 0)), some (.ref (u 1)), some (.ref (u 2)), none, none, some (.int (nI kw)), some (.int 1), some (.int vx), some (.int (rv4 - 6)), some (.long (mvx wx (nI kw) vx)), none, none, none] dL_acts_887 (by decide) rfl rfl ?_
          refine g_iload C dL_acts_889 rfl ?_
          refine g_if_eq C 907 dL_acts_891 (by decide) (fun c9 => absurd c9 (by decide)) (fun _ => ?_)
          refine g_aload C dL_acts_894 rfl ?_
          refine g_iconst C 4 dL_acts_896 (by decide +kernel) ?_
          refine g_iload C dL_acts_897 rfl ?_
          refine g_iadd C (nI (4 + kw)) dL_acts_899 (nI_k 4 kw _ rfl) ?_
          refine g_iald C 2 0 rfl rfl (4 + kw) rfl (by omega) (by decide) (wy kw) (hA_1 (by omega)) dL_acts_900 ?_
          refine g_iload C dL_acts_901 rfl ?_
          refine g_iadd C ((wy kw) + (rv4 - 6)) dL_acts_903 rfl ?_
          refine g_goto C 908 dL_acts_904 (by decide) ?_
          refine g_istore C [some (.ref (d 0)), some (.int p1), some (.int p2), some (.ref (u 0)), some (.ref (u 1)), some (.ref (u 2)), none, none, some (.int (nI kw)), some (.int 1), some (.int vx), some (.int (rv4 - 6)), some (.long (mvx wx (nI kw) vx)), none, some (.int ((wy kw) + (rv4 - 6))), none] dL_acts_908 (by decide) rfl rfl ?_
          refine g_join (σ := Int32) (fun vf : Int32 => (vf = 1 ∧ rng (mvx wx (nI kw) vx) 0 63 ∧ rng (mvx wy (nI kw) (rv4 - 6)) 0 63) ∨ (vf = 0 ∧ ¬ (rng (mvx wx (nI kw) vx) 0 63 ∧ rng (mvx wy (nI kw) (rv4 - 6)) 0 63))) (fun vf : Int32 => (wA cI u nc nw tk ho ri lo mg pt bd cx cy ch rm on wx wy dm sv fv hd lf la ++ ((wCo cI a b d mg pt bd tk ho ri lo fv hd lf la ++ wSo cI cW a b r2 hp rl cn be bw wo) ++ wL cI cZ cG a r nc nw cx cy ch rm on wx wy dm sv mu qq))) (fun vf : Int32 => [some (.ref (d 0)), some (.int p1), some (.int p2), some (.ref (u 0)), some (.ref (u 1)), some (.ref (u 2)), none, none, some (.int (nI kw)), some (.int 1), some (.int vx), some (.int (rv4 - 6)), some (.long (mvx wx (nI kw) vx)), none, some (.int ((wy kw) + (rv4 - 6))), none]) (fun vf : Int32 => [.int vf]) 943 (0) (0) (fun vf hvf => ?_) (fun J943 => ?_)
          · skip
            rcases hvf with ⟨rfl, hf1, hf2⟩ | ⟨rfl, hnf⟩
            · skip
              refine g_istore C [some (.ref (d 0)), some (.int p1), some (.int p2), some (.ref (u 0)), some (.ref (u 1)), some (.ref (u 2)), none, none, some (.int (nI kw)), some (.int 1), some (.int vx), some (.int (rv4 - 6)), some (.long (mvx wx (nI kw) vx)), none, some (.int ((wy kw) + (rv4 - 6))), some (.int 1)] dL_acts_943 (by decide) rfl rfl ?_
              refine g_iload C dL_acts_945 rfl ?_
              refine g_if_eq C 972 dL_acts_947 (by decide) (fun c9 => absurd c9 (by decide)) (fun _ => ?_)
              refine g_iload C dL_acts_950 rfl ?_
              refine g_if_eq C 972 dL_acts_952 (by decide) (fun c9 => absurd c9 (by decide)) (fun _ => ?_)
              refine g_aload C dL_acts_955 rfl ?_
              refine g_iload C dL_acts_957 rfl ?_
              refine g_lload C dL_acts_959 rfl ?_
              refine g_l2i C ((mvx wx (nI kw) vx).toInt32) dL_acts_961 rfl ?_
              refine g_iast C 2 0 rfl rfl kw rfl (by omega) (by decide) (wA cI u nc nw tk ho ri lo mg pt bd cx cy ch rm on (upd wx kw ((mvx wx (nI kw) vx).toInt32)) wy dm sv fv hd lf la ++ ((wCo cI a b d mg pt bd tk ho ri lo fv hd lf la ++ wSo cI cW a b r2 hp rl cn be bw wo) ++ wL cI cZ cG a r nc nw cx cy ch rm on wx wy dm sv mu qq)) (by rw [uhA_0 (by omega)]; rfl) dL_acts_962 ?_
              refine g_aload C dL_acts_963 rfl ?_
              refine g_iconst C 4 dL_acts_965 (by decide +kernel) ?_
              refine g_iload C dL_acts_966 rfl ?_
              refine g_iadd C (nI (4 + kw)) dL_acts_968 (nI_k 4 kw _ rfl) ?_
              refine g_iload C dL_acts_969 rfl ?_
              refine g_iast C 2 0 rfl rfl (4 + kw) rfl (by omega) (by decide) (wA cI u nc nw tk ho ri lo mg pt bd cx cy ch rm on (upd wx kw ((mvx wx (nI kw) vx).toInt32)) (upd wy kw ((wy kw) + (rv4 - 6))) dm sv fv hd lf la ++ ((wCo cI a b d mg pt bd tk ho ri lo fv hd lf la ++ wSo cI cW a b r2 hp rl cn be bw wo) ++ wL cI cZ cG a r nc nw cx cy ch rm on wx wy dm sv mu qq)) (by rw [uhA_1 (by omega)]; rfl) dL_acts_971 ?_
              refine g_aload_n C dL_acts_972 rfl ?_
              refine g_iload C dL_acts_973 rfl ?_
              refine g_iload C dL_acts_975 rfl ?_
              refine g_iload C dL_acts_977 rfl ?_
              refine gx_callH C hX (wA cI u nc nw tk ho ri lo mg pt bd cx cy ch rm on (upd wx kw ((mvx wx (nI kw) vx).toInt32)) (upd wy kw ((wy kw) + (rv4 - 6))) dm sv fv hd lf la) ((wCo cI a b d mg pt bd tk ho ri lo fv hd lf la ++ wSo cI cW a b r2 hp rl cn be bw wo) ++ wL cI cZ cG a r nc nw cx cy ch rm on wx wy dm sv mu qq) [.ref (d 0), .int (nI kw), .int vx, .int (rv4 - 6)] (t_L_moved hl0 (by omega)) (vx_cwSW 4 C.ts gL_acts_L_moved rfl rfl rfl (by decide +kernel) ⟨Nat.le_of_ble_eq_true rfl, Nat.le_of_ble_eq_true rfl⟩) rfl rfl rfl (Nat.le_of_ble_eq_true rfl) dL_acts_979 ⟨Nat.le_of_ble_eq_true rfl, Nat.le_of_ble_eq_true rfl⟩ (fun rv5 wv5 hp5 => ?_)
              obtain ⟨rfl, rfl⟩ : rv5 = 0 ∧ wv5 = ((wCo cI a b d mg pt bd tk ho ri lo fv hd lf la ++ wSo cI cW a b r2 hp rl cn be bw wo) ++ wL cI cZ cG a r nc nw cx cy ch rm on (upd wx kw (mvx wx (nI kw) vx).toInt32) (upd wy kw (wy kw + (rv4 - 6))) dm sv mu qq) := by
                rcases hp5 with ⟨h1, _, h2⟩ | ⟨_, hb, _⟩ | ⟨_, hb, _⟩
                · skip
                  rw [hkl, hmyi] at h2
                  exact ⟨h1, h2⟩
                · exact absurd ⟨kw, hkw, rfl⟩ hb
                · exact absurd ⟨hf1, hf2⟩ hb.2
              refine g_iload C dL_acts_982 rfl ?_
              refine g_if_ne C 992 dL_acts_984 (by decide) (fun _ => ?_) (fun c9 => absurd c9 (by decide))
              refine g_iload C dL_acts_992 rfl ?_
              refine g_if_eq C 1001 dL_acts_994 (by decide) (fun c9 => absurd c9 (by decide)) (fun _ => ?_)
              refine g_iconst C 0 dL_acts_997 (by decide +kernel) ?_
              refine g_goto C 1003 dL_acts_998 (by decide) ?_
              refine g_icmp_ne C 1010 dL_acts_1003 (by decide) (fun c9 => absurd rfl c9) (fun _ => ?_)
              refine g_iconst C 1 dL_acts_1006 (by decide +kernel) ?_
              refine g_goto C 1011 dL_acts_1007 (by decide) ?_
              exact gx_I (g_zret C hret (by decide +kernel) dL_acts_1011 (Nat.le_of_ble_eq_true rfl) (Nat.le_of_ble_eq_true rfl) ⟨rfl, ST_mk (by have h9 := JI_move hJ hkw hf1 hf2; rw [hmyi] at h9; exact h9)⟩)
            · skip
              refine g_istore C [some (.ref (d 0)), some (.int p1), some (.int p2), some (.ref (u 0)), some (.ref (u 1)), some (.ref (u 2)), none, none, some (.int (nI kw)), some (.int 1), some (.int vx), some (.int (rv4 - 6)), some (.long (mvx wx (nI kw) vx)), none, some (.int ((wy kw) + (rv4 - 6))), some (.int 0)] dL_acts_943 (by decide) rfl rfl ?_
              refine g_iload C dL_acts_945 rfl ?_
              refine g_if_eq C 972 dL_acts_947 (by decide) (fun c9 => absurd c9 (by decide)) (fun _ => ?_)
              refine g_iload C dL_acts_950 rfl ?_
              refine g_if_eq C 972 dL_acts_952 (by decide) (fun _ => ?_) (fun c9 => absurd rfl c9)
              refine g_aload_n C dL_acts_972 rfl ?_
              refine g_iload C dL_acts_973 rfl ?_
              refine g_iload C dL_acts_975 rfl ?_
              refine g_iload C dL_acts_977 rfl ?_
              refine gx_callH C hX (wA cI u nc nw tk ho ri lo mg pt bd cx cy ch rm on wx wy dm sv fv hd lf la) ((wCo cI a b d mg pt bd tk ho ri lo fv hd lf la ++ wSo cI cW a b r2 hp rl cn be bw wo) ++ wL cI cZ cG a r nc nw cx cy ch rm on wx wy dm sv mu qq) [.ref (d 0), .int (nI kw), .int vx, .int (rv4 - 6)] (t_L_moved hl0 (by omega)) (vx_cwSW 4 C.ts gL_acts_L_moved rfl rfl rfl (by decide +kernel) ⟨Nat.le_of_ble_eq_true rfl, Nat.le_of_ble_eq_true rfl⟩) rfl rfl rfl (Nat.le_of_ble_eq_true rfl) dL_acts_979 ⟨Nat.le_of_ble_eq_true rfl, Nat.le_of_ble_eq_true rfl⟩ (fun rv6 wv6 hp6 => ?_)
              obtain ⟨rfl, rfl⟩ : rv6 = -102 ∧ wv6 = ((wCo cI a b d mg pt bd tk ho ri lo fv hd lf la ++ wSo cI cW a b r2 hp rl cn be bw wo) ++ wL cI cZ cG a r nc nw cx cy ch rm on wx wy dm sv mu qq) := by
                rcases hp6 with ⟨_, hb, _⟩ | ⟨_, hb, _⟩ | ⟨h1, _, h2⟩
                · exact absurd ⟨hb.2.1, hb.2.2⟩ hnf
                · exact absurd ⟨kw, hkw, rfl⟩ hb
                · exact ⟨h1, h2⟩
              refine g_iload C dL_acts_982 rfl ?_
              refine g_if_ne C 992 dL_acts_984 (by decide) (fun _ => ?_) (fun c9 => absurd c9 (by decide))
              refine g_iload C dL_acts_992 rfl ?_
              refine g_if_eq C 1001 dL_acts_994 (by decide) (fun _ => ?_) (fun c9 => absurd rfl c9)
              refine g_bipush C (-102) dL_acts_1001 (by decide +kernel) ?_
              refine g_icmp_ne C 1010 dL_acts_1003 (by decide) (fun c9 => absurd rfl c9) (fun _ => ?_)
              refine g_iconst C 1 dL_acts_1006 (by decide +kernel) ?_
              refine g_goto C 1011 dL_acts_1007 (by decide) ?_
              exact gx_I (g_zret C hret (by decide +kernel) dL_acts_1011 (Nat.le_of_ble_eq_true rfl) (Nat.le_of_ble_eq_true rfl) ⟨rfl, ST_mk hJ⟩)
          · skip
            refine g_lload C dL_acts_910 rfl ?_
            refine g_lconst C 0 dL_acts_912 (by decide +kernel) ?_
            refine g_lcmp C dL_acts_913 ?_
            refine g_if_lt C 942 dL_acts_914 (by decide) (fun c_914 => ?_) (fun c_914 => ?_)
            · skip
              have hnf : ¬ (rng (mvx wx (nI kw) vx) 0 63 ∧ rng (mvx wy (nI kw) (rv4 - 6)) 0 63) := fun q => fit_no1 c_914 q.1
              refine g_iconst C 0 dL_acts_942 (by decide +kernel) ?_
              refine g_widen (k' := 0) (n' := 0) (by omega) (by omega) ?_
              exact J943 0 (Or.inr ⟨rfl, hnf⟩)
            · skip
              refine g_lload C dL_acts_917 rfl ?_
              refine g_ldc2 C (v := 64) (C.ts _ (by decide +kernel)) dL_acts_919 ?_
              refine g_lcmp C dL_acts_922 ?_
              refine g_if_ge C 942 dL_acts_923 (by decide) (fun c_923 => ?_) (fun c_923 => ?_)
              · skip
                have hnf : ¬ (rng (mvx wx (nI kw) vx) 0 63 ∧ rng (mvx wy (nI kw) (rv4 - 6)) 0 63) := fun q => fit_no2 c_923 q.1
                refine g_iconst C 0 dL_acts_942 (by decide +kernel) ?_
                refine g_widen (k' := 0) (n' := 0) (by omega) (by omega) ?_
                exact J943 0 (Or.inr ⟨rfl, hnf⟩)
              · skip
                refine g_iload C dL_acts_926 rfl ?_
                refine g_if_lt C 942 dL_acts_928 (by decide) (fun c_928 => ?_) (fun c_928 => ?_)
                · skip
                  have hnf : ¬ (rng (mvx wx (nI kw) vx) 0 63 ∧ rng (mvx wy (nI kw) (rv4 - 6)) 0 63) := fun q => absurd c_928 (Int32.not_lt.mpr ((rng_y hmy).mp q.2).1)
                  refine g_iconst C 0 dL_acts_942 (by decide +kernel) ?_
                  refine g_widen (k' := 0) (n' := 0) (by omega) (by omega) ?_
                  exact J943 0 (Or.inr ⟨rfl, hnf⟩)
                · skip
                  refine g_iload C dL_acts_931 rfl ?_
                  refine g_bipush C 64 dL_acts_933 (by decide +kernel) ?_
                  refine g_icmp_ge C 942 dL_acts_935 (by decide) (fun c_935 => ?_) (fun c_935 => ?_)
                  · skip
                    have hnf : ¬ (rng (mvx wx (nI kw) vx) 0 63 ∧ rng (mvx wy (nI kw) (rv4 - 6)) 0 63) := fun q => absurd ((rng_y hmy).mp q.2).2 (Int32.not_lt.mpr c_935)
                    refine g_iconst C 0 dL_acts_942 (by decide +kernel) ?_
                    refine g_widen (k' := 0) (n' := 0) (by omega) (by omega) ?_
                    exact J943 0 (Or.inr ⟨rfl, hnf⟩)
                  · skip
                    refine g_iconst C 1 dL_acts_938 (by decide +kernel) ?_
                    refine g_goto C 943 dL_acts_939 (by decide) ?_
                    refine g_widen (k' := 0) (n' := 0) (by omega) (by omega) ?_
                    exact J943 1 (Or.inl ⟨rfl, fit_yes c_914 c_923, (rng_y hmy).mpr ⟨Int32.not_lt.mp c_928, Int32.not_le.mp c_935⟩⟩)
        · skip
          refine g_if_ne C 841 dL_acts_833 (by decide) (fun c_833 => ?_) (fun c_833 => ?_)
          · skip
            refine g_iload_n C dL_acts_841 rfl ?_
            refine g_iconst C 4 dL_acts_842 (by decide +kernel) ?_
            refine g_ishr C (p2 >>> (4 &&& 31)) dL_acts_843 rfl ?_
            refine g_bipush C 13 dL_acts_844 (by decide +kernel) ?_
            refine g_callSi C (wA cI u nc nw tk ho ri lo mg pt bd cx cy ch rm on wx wy dm sv fv hd lf la ++ ((wCo cI a b d mg pt bd tk ho ri lo fv hd lf la ++ wSo cI cW a b r2 hp rl cn be bw wo) ++ wL cI cZ cG a r nc nw cx cy ch rm on wx wy dm sv mu qq)) [] [.int (p2 >>> (4 &&& 31)), .int 13] (t_L_some (by decide)) (va_cwS 2 C.ts gL_acts_L_some rfl rfl rfl (by decide +kernel) ⟨Nat.le_of_ble_eq_true rfl, Nat.le_of_ble_eq_true rfl⟩) rfl (List.append_nil _).symm rfl (Nat.le_of_ble_eq_true rfl) dL_acts_846 ⟨Nat.le_of_ble_eq_true rfl, Nat.le_of_ble_eq_true rfl⟩ (fun rv7 wv7 hp7 => ?_)
            obtain ⟨hs7, rfl⟩ := hp7
            have hs7 : tB 0 12 rv7 := some_tB hs7 (by decide)
            refine g_w (ws' := (wA cI u nc nw tk ho ri lo mg pt bd cx cy ch rm on wx wy dm sv fv hd lf la ++ ((wCo cI a b d mg pt bd tk ho ri lo fv hd lf la ++ wSo cI cW a b r2 hp rl cn be bw wo) ++ wL cI cZ cG a r nc nw cx cy ch rm on wx wy dm sv mu qq))) (List.append_nil _) ?_
            refine g_bipush C 6 dL_acts_849 (by decide +kernel) ?_
            refine g_isub C (rv7 - 6) dL_acts_851 rfl ?_
            refine g_widen (k' := 0) (n' := 0) (by omega) (by omega) ?_
            exact J852 (rv7 - 6) trivial
          · skip
            refine g_ldc C (v := 2147483647) (C.ts _ (by decide +kernel)) dL_acts_836 ?_
            refine g_goto C 852 dL_acts_838 (by decide) ?_
            refine g_widen (k' := 0) (n' := 0) (by omega) (by omega) ?_
            exact J852 2147483647 trivial
      · skip
        refine g_istore C [some (.ref (d 0)), some (.int p1), some (.int p2), some (.ref (u 0)), some (.ref (u 1)), some (.ref (u 2)), none, none, some (.int va), some (.int 0), none, none, none, none, none, none] dL_acts_823 (by decide) rfl rfl ?_
        refine g_iload_n C dL_acts_825 rfl ?_
        refine g_iconst C 4 dL_acts_826 (by decide +kernel) ?_
        refine g_ishr C (p2 >>> (4 &&& 31)) dL_acts_827 rfl ?_
        refine g_bipush C 40 dL_acts_828 (by decide +kernel) ?_
        refine g_callSi C (wA cI u nc nw tk ho ri lo mg pt bd cx cy ch rm on wx wy dm sv fv hd lf la ++ ((wCo cI a b d mg pt bd tk ho ri lo fv hd lf la ++ wSo cI cW a b r2 hp rl cn be bw wo) ++ wL cI cZ cG a r nc nw cx cy ch rm on wx wy dm sv mu qq)) [] [.int (p2 >>> (4 &&& 31)), .int 40] (t_L_some (by decide)) (va_cwS 2 C.ts gL_acts_L_some rfl rfl rfl (by decide +kernel) ⟨Nat.le_of_ble_eq_true rfl, Nat.le_of_ble_eq_true rfl⟩) rfl (List.append_nil _).symm rfl (Nat.le_of_ble_eq_true rfl) dL_acts_830 ⟨Nat.le_of_ble_eq_true rfl, Nat.le_of_ble_eq_true rfl⟩ (fun rv8 wv8 hp8 => ?_)
        obtain ⟨hs8, rfl⟩ := hp8
        have hs8 : tB 0 39 rv8 := some_tB hs8 (by decide)
        refine g_w (ws' := (wA cI u nc nw tk ho ri lo mg pt bd cx cy ch rm on wx wy dm sv fv hd lf la ++ ((wCo cI a b d mg pt bd tk ho ri lo fv hd lf la ++ wSo cI cW a b r2 hp rl cn be bw wo) ++ wL cI cZ cG a r nc nw cx cy ch rm on wx wy dm sv mu qq))) (List.append_nil _) ?_
        refine g_join (σ := Int32) (fun vx : Int32 => True) (fun vx : Int32 => (wA cI u nc nw tk ho ri lo mg pt bd cx cy ch rm on wx wy dm sv fv hd lf la ++ ((wCo cI a b d mg pt bd tk ho ri lo fv hd lf la ++ wSo cI cW a b r2 hp rl cn be bw wo) ++ wL cI cZ cG a r nc nw cx cy ch rm on wx wy dm sv mu qq))) (fun vx : Int32 => [some (.ref (d 0)), some (.int p1), some (.int p2), some (.ref (u 0)), some (.ref (u 1)), some (.ref (u 2)), none, none, some (.int va), some (.int 0), none, none, none, none, none, none]) (fun vx : Int32 => [.int vx]) 852 (0) (0) (fun vx hvx => ?_) (fun J852 => ?_)
        · skip
          refine g_istore C [some (.ref (d 0)), some (.int p1), some (.int p2), some (.ref (u 0)), some (.ref (u 1)), some (.ref (u 2)), none, none, some (.int va), some (.int 0), some (.int vx), none, none, none, none, none] dL_acts_852 (by decide) rfl rfl ?_
          refine g_iload_n C dL_acts_854 rfl ?_
          refine g_bipush C 7 dL_acts_855 (by decide +kernel) ?_
          refine g_ishr C (p2 >>> (7 &&& 31)) dL_acts_857 rfl ?_
          refine g_bipush C 13 dL_acts_858 (by decide +kernel) ?_
          refine g_callSi C (wA cI u nc nw tk ho ri lo mg pt bd cx cy ch rm on wx wy dm sv fv hd lf la ++ ((wCo cI a b d mg pt bd tk ho ri lo fv hd lf la ++ wSo cI cW a b r2 hp rl cn be bw wo) ++ wL cI cZ cG a r nc nw cx cy ch rm on wx wy dm sv mu qq)) [] [.int (p2 >>> (7 &&& 31)), .int 13] (t_L_some (by decide)) (va_cwS 2 C.ts gL_acts_L_some rfl rfl rfl (by decide +kernel) ⟨Nat.le_of_ble_eq_true rfl, Nat.le_of_ble_eq_true rfl⟩) rfl (List.append_nil _).symm rfl (Nat.le_of_ble_eq_true rfl) dL_acts_860 ⟨Nat.le_of_ble_eq_true rfl, Nat.le_of_ble_eq_true rfl⟩ (fun rv9 wv9 hp9 => ?_)
          obtain ⟨hs9, rfl⟩ := hp9
          have hs9 : tB 0 12 rv9 := some_tB hs9 (by decide)
          refine g_w (ws' := (wA cI u nc nw tk ho ri lo mg pt bd cx cy ch rm on wx wy dm sv fv hd lf la ++ ((wCo cI a b d mg pt bd tk ho ri lo fv hd lf la ++ wSo cI cW a b r2 hp rl cn be bw wo) ++ wL cI cZ cG a r nc nw cx cy ch rm on wx wy dm sv mu qq))) (List.append_nil _) ?_
          refine g_bipush C 6 dL_acts_863 (by decide +kernel) ?_
          refine g_isub C (rv9 - 6) dL_acts_865 rfl ?_
          have hvy : tB (-6) 6 (rv9 - 6) := tB_wk (tB_sub hs9 (tB_k 6 6 rfl) (by decide) (by decide)) (by decide) (by decide)
          refine g_istore C [some (.ref (d 0)), some (.int p1), some (.int p2), some (.ref (u 0)), some (.ref (u 1)), some (.ref (u 2)), none, none, some (.int va), some (.int 0), some (.int vx), some (.int (rv9 - 6)), none, none, none, none] dL_acts_866 (by decide) rfl rfl ?_
          refine g_iload C dL_acts_868 rfl ?_
          refine g_if_eq C 886 dL_acts_870 (by decide) (fun _ => ?_) (fun c9 => absurd rfl c9)
          refine g_lconst C 0 dL_acts_886 (by decide +kernel) ?_
          refine g_lstore C [some (.ref (d 0)), some (.int p1), some (.int p2), some (.ref (u 0)), some (.ref (u 1)), some (.ref (u 2)), none, none, some (.int va), some (.int 0), some (.int vx), some (.int (rv9 - 6)), some (.long 0), none, none, none] dL_acts_887 (by decide) rfl rfl ?_
          refine g_iload C dL_acts_889 rfl ?_
          refine g_if_eq C 907 dL_acts_891 (by decide) (fun _ => ?_) (fun c9 => absurd rfl c9)
          refine g_iconst C 0 dL_acts_907 (by decide +kernel) ?_
          refine g_istore C [some (.ref (d 0)), some (.int p1), some (.int p2), some (.ref (u 0)), some (.ref (u 1)), some (.ref (u 2)), none, none, some (.int va), some (.int 0), some (.int vx), some (.int (rv9 - 6)), some (.long 0), none, some (.int 0), none] dL_acts_908 (by decide) rfl rfl ?_
          refine g_join (σ := Int32) (fun vf : Int32 => True) (fun vf : Int32 => (wA cI u nc nw tk ho ri lo mg pt bd cx cy ch rm on wx wy dm sv fv hd lf la ++ ((wCo cI a b d mg pt bd tk ho ri lo fv hd lf la ++ wSo cI cW a b r2 hp rl cn be bw wo) ++ wL cI cZ cG a r nc nw cx cy ch rm on wx wy dm sv mu qq))) (fun vf : Int32 => [some (.ref (d 0)), some (.int p1), some (.int p2), some (.ref (u 0)), some (.ref (u 1)), some (.ref (u 2)), none, none, some (.int va), some (.int 0), some (.int vx), some (.int (rv9 - 6)), some (.long 0), none, some (.int 0), none]) (fun vf : Int32 => [.int vf]) 943 (0) (0) (fun vf hvf => ?_) (fun J943 => ?_)
          · skip
            refine g_istore C [some (.ref (d 0)), some (.int p1), some (.int p2), some (.ref (u 0)), some (.ref (u 1)), some (.ref (u 2)), none, none, some (.int va), some (.int 0), some (.int vx), some (.int (rv9 - 6)), some (.long 0), none, some (.int 0), some (.int vf)] dL_acts_943 (by decide) rfl rfl ?_
            refine g_iload C dL_acts_945 rfl ?_
            refine g_if_eq C 972 dL_acts_947 (by decide) (fun _ => ?_) (fun c9 => absurd rfl c9)
            refine g_aload_n C dL_acts_972 rfl ?_
            refine g_iload C dL_acts_973 rfl ?_
            refine g_iload C dL_acts_975 rfl ?_
            refine g_iload C dL_acts_977 rfl ?_
            refine gx_callH C hX (wA cI u nc nw tk ho ri lo mg pt bd cx cy ch rm on wx wy dm sv fv hd lf la) ((wCo cI a b d mg pt bd tk ho ri lo fv hd lf la ++ wSo cI cW a b r2 hp rl cn be bw wo) ++ wL cI cZ cG a r nc nw cx cy ch rm on wx wy dm sv mu qq) [.ref (d 0), .int va, .int vx, .int (rv9 - 6)] (t_L_moved hl0 (by omega)) (vx_cwSW 4 C.ts gL_acts_L_moved rfl rfl rfl (by decide +kernel) ⟨Nat.le_of_ble_eq_true rfl, Nat.le_of_ble_eq_true rfl⟩) rfl rfl rfl (Nat.le_of_ble_eq_true rfl) dL_acts_979 ⟨Nat.le_of_ble_eq_true rfl, Nat.le_of_ble_eq_true rfl⟩ (fun rv10 wv10 hp10 => ?_)
            obtain ⟨rfl, rfl⟩ : rv10 = -101 ∧ wv10 = ((wCo cI a b d mg pt bd tk ho ri lo fv hd lf la ++ wSo cI cW a b r2 hp rl cn be bw wo) ++ wL cI cZ cG a r nc nw cx cy ch rm on wx wy dm sv mu qq) := by
              rcases hp10 with ⟨_, hb, _⟩ | ⟨h1, _, h2⟩ | ⟨_, hb, _⟩
              · exact absurd hb.1 hno
              · exact ⟨h1, h2⟩
              · exact absurd hb.1 hno
            refine g_iload C dL_acts_982 rfl ?_
            refine g_if_ne C 992 dL_acts_984 (by decide) (fun c9 => absurd rfl c9) (fun _ => ?_)
            refine g_bipush C (-101) dL_acts_987 (by decide +kernel) ?_
            refine g_goto C 1003 dL_acts_989 (by decide) ?_
            refine g_icmp_ne C 1010 dL_acts_1003 (by decide) (fun c9 => absurd rfl c9) (fun _ => ?_)
            refine g_iconst C 1 dL_acts_1006 (by decide +kernel) ?_
            refine g_goto C 1011 dL_acts_1007 (by decide) ?_
            exact gx_I (g_zret C hret (by decide +kernel) dL_acts_1011 (Nat.le_of_ble_eq_true rfl) (Nat.le_of_ble_eq_true rfl) ⟨rfl, ST_mk hJ⟩)
          · skip
            refine g_lload C dL_acts_910 rfl ?_
            refine g_lconst C 0 dL_acts_912 (by decide +kernel) ?_
            refine g_lcmp C dL_acts_913 ?_
            refine g_if_lt C 942 dL_acts_914 (by decide) (fun c_914 => ?_) (fun c_914 => ?_)
            · skip
              refine g_iconst C 0 dL_acts_942 (by decide +kernel) ?_
              refine g_widen (k' := 0) (n' := 0) (by omega) (by omega) ?_
              exact J943 0 trivial
            · skip
              refine g_lload C dL_acts_917 rfl ?_
              refine g_ldc2 C (v := 64) (C.ts _ (by decide +kernel)) dL_acts_919 ?_
              refine g_lcmp C dL_acts_922 ?_
              refine g_if_ge C 942 dL_acts_923 (by decide) (fun c_923 => ?_) (fun c_923 => ?_)
              · skip
                refine g_iconst C 0 dL_acts_942 (by decide +kernel) ?_
                refine g_widen (k' := 0) (n' := 0) (by omega) (by omega) ?_
                exact J943 0 trivial
              · skip
                refine g_iload C dL_acts_926 rfl ?_
                refine g_if_lt C 942 dL_acts_928 (by decide) (fun c_928 => ?_) (fun c_928 => ?_)
                · skip
                  refine g_iconst C 0 dL_acts_942 (by decide +kernel) ?_
                  refine g_widen (k' := 0) (n' := 0) (by omega) (by omega) ?_
                  exact J943 0 trivial
                · skip
                  refine g_iload C dL_acts_931 rfl ?_
                  refine g_bipush C 64 dL_acts_933 (by decide +kernel) ?_
                  refine g_icmp_ge C 942 dL_acts_935 (by decide) (fun c_935 => ?_) (fun c_935 => ?_)
                  · skip
                    refine g_iconst C 0 dL_acts_942 (by decide +kernel) ?_
                    refine g_widen (k' := 0) (n' := 0) (by omega) (by omega) ?_
                    exact J943 0 trivial
                  · skip
                    refine g_iconst C 1 dL_acts_938 (by decide +kernel) ?_
                    refine g_goto C 943 dL_acts_939 (by decide) ?_
                    refine g_widen (k' := 0) (n' := 0) (by omega) (by omega) ?_
                    exact J943 1 trivial
        · skip
          refine g_if_ne C 841 dL_acts_833 (by decide) (fun c_833 => ?_) (fun c_833 => ?_)
          · skip
            refine g_iload_n C dL_acts_841 rfl ?_
            refine g_iconst C 4 dL_acts_842 (by decide +kernel) ?_
            refine g_ishr C (p2 >>> (4 &&& 31)) dL_acts_843 rfl ?_
            refine g_bipush C 13 dL_acts_844 (by decide +kernel) ?_
            refine g_callSi C (wA cI u nc nw tk ho ri lo mg pt bd cx cy ch rm on wx wy dm sv fv hd lf la ++ ((wCo cI a b d mg pt bd tk ho ri lo fv hd lf la ++ wSo cI cW a b r2 hp rl cn be bw wo) ++ wL cI cZ cG a r nc nw cx cy ch rm on wx wy dm sv mu qq)) [] [.int (p2 >>> (4 &&& 31)), .int 13] (t_L_some (by decide)) (va_cwS 2 C.ts gL_acts_L_some rfl rfl rfl (by decide +kernel) ⟨Nat.le_of_ble_eq_true rfl, Nat.le_of_ble_eq_true rfl⟩) rfl (List.append_nil _).symm rfl (Nat.le_of_ble_eq_true rfl) dL_acts_846 ⟨Nat.le_of_ble_eq_true rfl, Nat.le_of_ble_eq_true rfl⟩ (fun rv11 wv11 hp11 => ?_)
            obtain ⟨hs11, rfl⟩ := hp11
            have hs11 : tB 0 12 rv11 := some_tB hs11 (by decide)
            refine g_w (ws' := (wA cI u nc nw tk ho ri lo mg pt bd cx cy ch rm on wx wy dm sv fv hd lf la ++ ((wCo cI a b d mg pt bd tk ho ri lo fv hd lf la ++ wSo cI cW a b r2 hp rl cn be bw wo) ++ wL cI cZ cG a r nc nw cx cy ch rm on wx wy dm sv mu qq))) (List.append_nil _) ?_
            refine g_bipush C 6 dL_acts_849 (by decide +kernel) ?_
            refine g_isub C (rv11 - 6) dL_acts_851 rfl ?_
            refine g_widen (k' := 0) (n' := 0) (by omega) (by omega) ?_
            exact J852 (rv11 - 6) trivial
          · skip
            refine g_ldc C (v := 2147483647) (C.ts _ (by decide +kernel)) dL_acts_836 ?_
            refine g_goto C 852 dL_acts_838 (by decide) ?_
            refine g_widen (k' := 0) (n' := 0) (by omega) (by omega) ?_
            exact J852 2147483647 trivial
    · skip
      refine g_iload C dL_acts_805 rfl ?_
      refine g_if_lt C 822 dL_acts_807 (by decide) (fun c_807 => ?_) (fun c_807 => ?_)
      · skip
        have hz : ¬ IC nw va := IC_no1 c_807 (by omega)
        refine g_iconst C 0 dL_acts_822 (by decide +kernel) ?_
        refine g_widen (k' := 0) (n' := 0) (by omega) (by omega) ?_
        exact J823 0 (Or.inr ⟨rfl, hz⟩)
      · skip
        refine g_iload C dL_acts_810 rfl ?_
        refine g_aload_n C dL_acts_812 rfl ?_
        refine g_iconst C 1 dL_acts_813 (by decide +kernel) ?_
        refine g_iald C 0 0 rfl rfl 1 rfl (by omega) (by decide) (nI nw) rfl dL_acts_814 ?_
        refine g_icmp_ge C 822 dL_acts_815 (by decide) (fun c_815 => ?_) (fun c_815 => ?_)
        · skip
          have hz : ¬ IC nw va := IC_no2 (by omega) (Int32.not_lt.mpr c_815)
          refine g_iconst C 0 dL_acts_822 (by decide +kernel) ?_
          refine g_widen (k' := 0) (n' := 0) (by omega) (by omega) ?_
          exact J823 0 (Or.inr ⟨rfl, hz⟩)
        · skip
          refine g_iconst C 1 dL_acts_818 (by decide +kernel) ?_
          refine g_goto C 823 dL_acts_819 (by decide) ?_
          refine g_widen (k' := 0) (n' := 0) (by omega) (by omega) ?_
          exact J823 1 (Or.inl ⟨rfl, IC_yes (by omega) c_807 (Int32.not_le.mp c_815)⟩)
  · skip
    refine g_if_ne C 801 dL_acts_794 (by decide) (fun c_794 => ?_) (fun c_794 => ?_)
    · skip
      refine g_iconst C 0 dL_acts_801 (by decide +kernel) ?_
      refine g_isub C (rv1 - 0) dL_acts_802 rfl ?_
      refine g_widen (k' := 0) (n' := 0) (by omega) (by omega) ?_
      exact J803 (rv1 - 0) trivial
    · skip
      refine g_iconst C 1 dL_acts_797 (by decide +kernel) ?_
      refine g_goto C 802 dL_acts_798 (by decide) ?_
      refine g_isub C (rv1 - 1) dL_acts_802 rfl ?_
      refine g_widen (k' := 0) (n' := 0) (by omega) (by omega) ?_
      exact J803 (rv1 - 1) trivial
set_option maxHeartbeats 8000000 in
set_option maxRecDepth 100000 in
theorem acts_tk {l : Launch} (hl0 : l.stackTraces = false) {D : va_G} {cI cZ cJ cG cW : ClassId} {u : Nat → Nat} {nc nw : Nat} {tk ho ri lo mg pt bd : Int32} {cx cy ch rm on wx wy dm sv fv hd lf la : Nat → Int32} {a b d r2 : Nat → Nat} {hp rl cn be : Nat → Int32} {bw : Int32} {wo : Nat → Nat → Int32} {r : Nat → Nat} {mu : Nat → Int32} {qq : Nat → Nat → Int32} {p1 p2 : Int32} {p_ : Program} {e_ : Env} {s_ : State} {m_ : MethodId} {as_ : Array Value} {bl_ : List Frame} {me_ : Method} {co_ : Code} (C : CX p_ s_ m_ as_ me_ co_ cL_acts RL wsL_acts D (T5 cI cZ cJ cG cW) (va_A (wA cI u nc nw tk ho ri lo mg pt bd cx cy ch rm on wx wy dm sv fv hd lf la ++ ((wCo cI a b d mg pt bd tk ho ri lo fv hd lf la ++ wSo cI cW a b r2 hp rl cn be bw wo) ++ wL cI cZ cG a r nc nw cx cy ch rm on wx wy dm sv mu qq)) s_.heap.size) 16) (hret : me_.sig.returnType = some .boolean) (hX : XX (va_A (wA cI u nc nw tk ho ri lo mg pt bd cx cy ch rm on wx wy dm sv fv hd lf la ++ ((wCo cI a b d mg pt bd tk ho ri lo fv hd lf la ++ wSo cI cW a b r2 hp rl cn be bw wo) ++ wL cI cZ cG a r nc nw cx cy ch rm on wx wy dm sv mu qq)) s_.heap.size) s_ s_.heap) (hJ : JI nc nw cx cy ch rm on wx wy dm sv hd) :
    G p_ l e_ { frames := 12, cells := 20, slots := 120, locals := 400 } s_ m_ as_ bl_ me_ co_ D (va_A (wA cI u nc nw tk ho ri lo mg pt bd cx cy ch rm on wx wy dm sv fv hd lf la ++ ((wCo cI a b d mg pt bd tk ho ri lo fv hd lf la ++ wSo cI cW a b r2 hp rl cn be bw wo) ++ wL cI cZ cG a r nc nw cx cy ch rm on wx wy dm sv mu qq)) s_.heap.size) 16 (QXI bl_ (fun rv wv => rv = 1 ∧ ST cI cZ cG cW u a b d r r2 wv) (fun _ => False) D (T5 cI cZ cJ cG cW) (wA cI u nc nw tk ho ri lo mg pt bd cx cy ch rm on wx wy dm sv fv hd lf la ++ ((wCo cI a b d mg pt bd tk ho ri lo fv hd lf la ++ wSo cI cW a b r2 hp rl cn be bw wo) ++ wL cI cZ cG a r nc nw cx cy ch rm on wx wy dm sv mu qq)) as_ s_ 20 120) 0 0 (wA cI u nc nw tk ho ri lo mg pt bd cx cy ch rm on wx wy dm sv fv hd lf la ++ ((wCo cI a b d mg pt bd tk ho ri lo fv hd lf la ++ wSo cI cW a b r2 hp rl cn be bw wo) ++ wL cI cZ cG a r nc nw cx cy ch rm on wx wy dm sv mu qq)) [some (.ref (d 0)), some (.int p1), some (.int p2), some (.ref (u 0)), some (.ref (u 1)), some (.ref (u 2)), none, none, none, none, none, none, none, none, none, none] 1012 [] := by
  have n4 := hJ.n4
  have w4 := hJ.w4
  refine g_iload_n C dL_acts_1012 rfl ?_
  refine g_bipush C 40 dL_acts_1013 (by decide +kernel) ?_
  refine g_callSi C (wA cI u nc nw tk ho ri lo mg pt bd cx cy ch rm on wx wy dm sv fv hd lf la ++ ((wCo cI a b d mg pt bd tk ho ri lo fv hd lf la ++ wSo cI cW a b r2 hp rl cn be bw wo) ++ wL cI cZ cG a r nc nw cx cy ch rm on wx wy dm sv mu qq)) [] [.int p2, .int 40] (t_L_some (by decide)) (va_cwS 2 C.ts gL_acts_L_some rfl rfl rfl (by decide +kernel) ⟨Nat.le_of_ble_eq_true rfl, Nat.le_of_ble_eq_true rfl⟩) rfl (List.append_nil _).symm rfl (Nat.le_of_ble_eq_true rfl) dL_acts_1015 ⟨Nat.le_of_ble_eq_true rfl, Nat.le_of_ble_eq_true rfl⟩ (fun rv1 wv1 hp1 => ?_)
  obtain ⟨hs1, rfl⟩ := hp1
  have hs1 : tB 0 39 rv1 := some_tB hs1 (by decide)
  refine g_w (ws' := (wA cI u nc nw tk ho ri lo mg pt bd cx cy ch rm on wx wy dm sv fv hd lf la ++ ((wCo cI a b d mg pt bd tk ho ri lo fv hd lf la ++ wSo cI cW a b r2 hp rl cn be bw wo) ++ wL cI cZ cG a r nc nw cx cy ch rm on wx wy dm sv mu qq))) (List.append_nil _) ?_
  refine g_join (σ := Nat) (fun m : Nat => m ≤ 3 ∨ m = 21) (fun m : Nat => (wA cI u nc nw tk ho ri lo mg pt bd cx cy ch rm on wx wy dm sv fv hd lf la ++ ((wCo cI a b d mg pt bd tk ho ri lo fv hd lf la ++ wSo cI cW a b r2 hp rl cn be bw wo) ++ wL cI cZ cG a r nc nw cx cy ch rm on wx wy dm sv mu qq))) (fun m : Nat => [some (.ref (d 0)), some (.int p1), some (.int p2), some (.ref (u 0)), some (.ref (u 1)), some (.ref (u 2)), none, none, none, none, none, none, none, none, none, none]) (fun m : Nat => [.int (nI m)]) 1041 (0) (0) (fun m hm => ?_) (fun J1041 => ?_)
  · skip
    refine g_istore C [some (.ref (d 0)), some (.int p1), some (.int p2), some (.ref (u 0)), some (.ref (u 1)), some (.ref (u 2)), none, none, some (.int (nI m)), none, none, none, none, none, none, none] dL_acts_1041 (by decide) rfl rfl ?_
    rcases (show (1 ≤ m ∧ m ≤ 3) ∨ m = 0 ∨ m = 21 by omega) with hm3 | rfl | rfl
    · skip
      refine g_aload_n C dL_acts_1043 rfl ?_
      refine g_iconst C 3 dL_acts_1044 (by decide +kernel) ?_
      refine g_iald C 0 0 rfl rfl 3 rfl (by omega) (by decide) ho rfl dL_acts_1045 ?_
      refine g_istore C [some (.ref (d 0)), some (.int p1), some (.int p2), some (.ref (u 0)), some (.ref (u 1)), some (.ref (u 2)), none, none, some (.int (nI m)), some (.int ho), none, none, none, none, none, none] dL_acts_1046 (by decide) rfl rfl ?_
      refine g_iconst C 0 dL_acts_1048 (by decide +kernel) ?_
      refine g_istore C [some (.ref (d 0)), some (.int p1), some (.int p2), some (.ref (u 0)), some (.ref (u 1)), some (.ref (u 2)), none, none, some (.int (nI m)), some (.int ho), some (.int 0), none, none, none, none, none] dL_acts_1049 (by decide) rfl rfl ?_
      refine g_loopk2 0 ((tk, sv, fv, hd, lf, la, ho, ri, lo)) (fun (i : Nat) (x : LT) => i ≤ m ∧ x = ltk cx cy ch on wx wy rm dm nc nw mg pt bd (tk, sv, fv, hd, lf, la, ho, ri, lo) i) (fun (i : Nat) (x : LT) => (wA cI u nc nw x.1 x.2.2.2.2.2.2.1 x.2.2.2.2.2.2.2.1 x.2.2.2.2.2.2.2.2 mg pt bd cx cy ch rm on wx wy dm x.2.1 x.2.2.1 x.2.2.2.1 x.2.2.2.2.1 x.2.2.2.2.2.1 ++ ((wCo cI a b d mg pt bd tk ho ri lo fv hd lf la ++ wSo cI cW a b r2 hp rl cn be bw wo) ++ wL cI cZ cG a r nc nw cx cy ch rm on wx wy dm sv mu qq))) (fun (i : Nat) (x : LT) => [some (.ref (d 0)), some (.int p1), some (.int p2), some (.ref (u 0)), some (.ref (u 1)), some (.ref (u 2)), none, none, some (.int (nI m)), some (.int ho), some (.int (nI i)), none, none, none, none, none]) (fun (i : Nat) (x : LT) => i) (fun (i : Nat) (x : LT) => i * 16) (fun (i : Nat) (x : LT) => m - i) ⟨Nat.zero_le _, rfl⟩ rfl rfl (by omega) (by omega) (fun i x hI ih => ?_)
      obtain ⟨h1, h2⟩ := hI
      have hJx : JI nc nw cx cy ch rm on wx wy dm x.2.1 x.2.2.2.1 := by rw [h2]; exact JI_tick hJ i
      refine g_iload C dL_acts_1051 rfl ?_
      refine g_iload C dL_acts_1053 rfl ?_
      refine g_icmp_ge C 1079 dL_acts_1055 (by decide) (fun c_1055 => ?_) (fun c_1055 => ?_)
      · skip
        have c_1055 : m ≤ i := (nI_leI (by omega) (by omega)).mp c_1055
        refine g_aload_n C dL_acts_1079 rfl ?_
        refine g_iconst C 3 dL_acts_1080 (by decide +kernel) ?_
        refine g_iload C dL_acts_1081 rfl ?_
        refine gx_callH C hX (wA cI u nc nw x.1 x.2.2.2.2.2.2.1 x.2.2.2.2.2.2.2.1 x.2.2.2.2.2.2.2.2 mg pt bd cx cy ch rm on wx wy dm x.2.1 x.2.2.1 x.2.2.2.1 x.2.2.2.2.1 x.2.2.2.2.2.1) ((wCo cI a b d mg pt bd tk ho ri lo fv hd lf la ++ wSo cI cW a b r2 hp rl cn be bw wo) ++ wL cI cZ cG a r nc nw cx cy ch rm on wx wy dm sv mu qq) [.ref (d 0), .int 3, .int (nI m)] (t_L_set_3 hl0 (by omega) (by omega) hJ.1.ihr hJ.1.ihg (hJ.1.iGQ on) hJ.svv) (vx_cwSW 3 C.ts gL_acts_L_set rfl rfl rfl (by decide +kernel) ⟨Nat.le_of_ble_eq_true rfl, Nat.le_of_ble_eq_true rfl⟩) rfl rfl rfl (Nat.le_of_ble_eq_true rfl) dL_acts_1083 (rmL (by omega) (by omega)) (fun rv2 wv2 hp2 => ?_)
        have hx : x = ltk cx cy ch on wx wy rm dm nc nw mg pt bd (tk, sv, fv, hd, lf, la, ho, ri, lo) m := by rw [h2, show i = m by omega]
        obtain ⟨e1, e2, _⟩ := fti_ltk (mu := mu) (qq := qq) (tk := tk) (cx := cx) (cy := cy) (ch := ch) (on := on) (wx := wx) (wy := wy) (rm := rm) (dm := dm) (mg := mg) (pt := pt) (bd := bd) (z := (sv, fv, hd, lf, la, ho, ri, lo)) (show nc < 2 ^ 31 by omega) hJ.svv m
        rw [← hx] at e1 e2
        have hkl : (nI m).toNatClampNeg = m := nI_clamp (by omega)
        obtain ⟨rfl, rfl⟩ : rv2 = x.2.2.2.2.2.2.1 - ho ∧ wv2 = ((wCo cI a b d mg pt bd x.1 x.2.2.2.2.2.2.1 x.2.2.2.2.2.2.2.1 x.2.2.2.2.2.2.2.2 x.2.2.1 x.2.2.2.1 x.2.2.2.2.1 x.2.2.2.2.2.1 ++ wSo cI cW a b r2 hp rl cn be bw wo) ++ wL cI cZ cG a r nc nw cx cy ch rm on wx wy dm x.2.1 ((fti cx cy ch on wx wy rm dm nc nw mg pt bd (tk, mu, qq, sv, fv, hd, lf, la, ho, ri, lo) m).2.1) ((fti cx cy ch on wx wy rm dm nc nw mg pt bd (tk, mu, qq, sv, fv, hd, lf, la, ho, ri, lo) m).2.2.1)) := by
          rcases hp2 with ⟨h1, _, h2⟩ | ⟨_, hb, _⟩
          · skip
            rw [hkl, e2] at h1
            rw [hkl, e1, e2] at h2
            exact ⟨h1, h2⟩
          · exact absurd ⟨by rw [i_le, nI_toInt (by omega)]; show (1 : Int) ≤ _; omega, by rw [i_le, nI_toInt (by omega)]; show _ ≤ (20 : Int); omega⟩ hb
        refine g_iload C dL_acts_1086 rfl ?_
        refine g_if_le C 1107 dL_acts_1088 (by decide) (fun c9 => absurd c9 (nI_nle (by omega) (by omega))) (fun _ => ?_)
        refine g_iload C dL_acts_1091 rfl ?_
        refine g_bipush C 21 dL_acts_1093 (by decide +kernel) ?_
        refine g_icmp_ge C 1107 dL_acts_1095 (by decide) (fun c9 => absurd c9 (by rw [i_le, nI_toInt (by omega)]; show ¬ (21 : Int) ≤ _; omega)) (fun _ => ?_)
        refine g_aload_n C dL_acts_1098 rfl ?_
        refine g_iconst C 3 dL_acts_1099 (by decide +kernel) ?_
        refine g_iald C 0 0 rfl rfl 3 rfl (by omega) (by decide) x.2.2.2.2.2.2.1 rfl dL_acts_1100 ?_
        refine g_iload C dL_acts_1101 rfl ?_
        refine g_isub C (x.2.2.2.2.2.2.1 - ho) dL_acts_1103 rfl ?_
        refine g_goto C 1109 dL_acts_1104 (by decide) ?_
        refine g_icmp_ne C 1116 dL_acts_1109 (by decide) (fun c9 => absurd rfl c9) (fun _ => ?_)
        refine g_iconst C 1 dL_acts_1112 (by decide +kernel) ?_
        refine g_goto C 1117 dL_acts_1113 (by decide) ?_
        exact gx_I (g_zret C hret (by decide +kernel) dL_acts_1117 (by omega) (by omega) ⟨rfl, ST_mk hJx⟩)
      · skip
        have c_1055 : ¬ (m ≤ i) := fun h9 => c_1055 ((nI_leI (by omega) (by omega)).mpr h9)
        refine g_iload C dL_acts_1058 rfl ?_
        refine g_bipush C 21 dL_acts_1060 (by decide +kernel) ?_
        refine g_icmp_ge C 1079 dL_acts_1062 (by decide) (fun c9 => absurd c9 (by rw [i_le, nI_toInt (by omega)]; show ¬ (21 : Int) ≤ _; omega)) (fun _ => ?_)
        refine g_aload_n C dL_acts_1065 rfl ?_
        refine g_aload C dL_acts_1066 rfl ?_
        refine g_aload C dL_acts_1068 rfl ?_
        refine g_swap ?_
        refine g_callSv C ((wCo cI a b d mg pt bd tk ho ri lo fv hd lf la ++ wSo cI cW a b r2 hp rl cn be bw wo) ++ wL cI cZ cG a r nc nw cx cy ch rm on wx wy dm sv mu qq) (wA cI u nc nw x.1 x.2.2.2.2.2.2.1 x.2.2.2.2.2.2.2.1 x.2.2.2.2.2.2.2.2 mg pt bd cx cy ch rm on wx wy dm x.2.1 x.2.2.1 x.2.2.2.1 x.2.2.2.2.1 x.2.2.2.2.2.1) [.ref (u 0), .ref (u 1), .ref (u 2)] (t_L_tick n4 w4 hJ.r0 hJ.1.ihg (hJ.gq x.2.1) hJ.onn hJx.svv) (va_cwS 3 C.ts gL_acts_L_tick rfl rfl rfl (by decide +kernel) ⟨Nat.le_of_ble_eq_true rfl, Nat.le_of_ble_eq_true rfl⟩) rfl rfl rfl (Nat.le_of_ble_eq_true rfl) dL_acts_1070 (rmL (by omega) (by omega)) (fun wv3 tv3 hp3 => ?_)
        obtain ⟨rfl, rfl⟩ := hp3
        refine g_swap ?_
        refine g_w (ws' := (wA cI u nc nw ((ltk1 cx cy ch on wx wy rm dm nc nw mg pt bd x).1) ((ltk1 cx cy ch on wx wy rm dm nc nw mg pt bd x).2.2.2.2.2.2.1) ((ltk1 cx cy ch on wx wy rm dm nc nw mg pt bd x).2.2.2.2.2.2.2.1) ((ltk1 cx cy ch on wx wy rm dm nc nw mg pt bd x).2.2.2.2.2.2.2.2) mg pt bd cx cy ch rm on wx wy dm ((ltk1 cx cy ch on wx wy rm dm nc nw mg pt bd x).2.1) ((ltk1 cx cy ch on wx wy rm dm nc nw mg pt bd x).2.2.1) ((ltk1 cx cy ch on wx wy rm dm nc nw mg pt bd x).2.2.2.1) ((ltk1 cx cy ch on wx wy rm dm nc nw mg pt bd x).2.2.2.2.1) ((ltk1 cx cy ch on wx wy rm dm nc nw mg pt bd x).2.2.2.2.2.1) ++ ((wCo cI a b d mg pt bd tk ho ri lo fv hd lf la ++ wSo cI cW a b r2 hp rl cn be bw wo) ++ wL cI cZ cG a r nc nw cx cy ch rm on wx wy dm sv mu qq))) rfl ?_
        refine g_iinc C (nI (i + 1)) [some (.ref (d 0)), some (.int p1), some (.int p2), some (.ref (u 0)), some (.ref (u 1)), some (.ref (u 2)), none, none, some (.int (nI m)), some (.int ho), some (.int (nI (i + 1))), none, none, none, none, none] dL_acts_1073 rfl (nI_1 i) (by decide) rfl rfl ?_
        refine g_goto C 1051 dL_acts_1076 (by decide) ?_
        refine g_widen (k' := (i + 1)) (n' := (i + 1) * 16) (by omega) (by omega) ?_
        exact ih (i + 1) (ltk1 cx cy ch on wx wy rm dm nc nw mg pt bd x) ⟨by omega, by rw [ltk, ← h2]⟩ (by omega)
    · skip
      refine g_aload_n C dL_acts_1043 rfl ?_
      refine g_iconst C 3 dL_acts_1044 (by decide +kernel) ?_
      refine g_iald C 0 0 rfl rfl 3 rfl (by omega) (by decide) ho rfl dL_acts_1045 ?_
      refine g_istore C [some (.ref (d 0)), some (.int p1), some (.int p2), some (.ref (u 0)), some (.ref (u 1)), some (.ref (u 2)), none, none, some (.int (nI 0)), some (.int ho), none, none, none, none, none, none] dL_acts_1046 (by decide) rfl rfl ?_
      refine g_iconst C 0 dL_acts_1048 (by decide +kernel) ?_
      refine g_istore C [some (.ref (d 0)), some (.int p1), some (.int p2), some (.ref (u 0)), some (.ref (u 1)), some (.ref (u 2)), none, none, some (.int (nI 0)), some (.int ho), some (.int 0), none, none, none, none, none] dL_acts_1049 (by decide) rfl rfl ?_
      refine g_iload C dL_acts_1051 rfl ?_
      refine g_iload C dL_acts_1053 rfl ?_
      refine g_icmp_ge C 1079 dL_acts_1055 (by decide) (fun _ => ?_) (fun c9 => absurd (by decide) c9)
      refine g_aload_n C dL_acts_1079 rfl ?_
      refine g_iconst C 3 dL_acts_1080 (by decide +kernel) ?_
      refine g_iload C dL_acts_1081 rfl ?_
      refine gx_callH C hX (wA cI u nc nw tk ho ri lo mg pt bd cx cy ch rm on wx wy dm sv fv hd lf la) ((wCo cI a b d mg pt bd tk ho ri lo fv hd lf la ++ wSo cI cW a b r2 hp rl cn be bw wo) ++ wL cI cZ cG a r nc nw cx cy ch rm on wx wy dm sv mu qq) [.ref (d 0), .int 3, .int (nI 0)] (t_L_set_3 hl0 (by omega) (by omega) hJ.1.ihr hJ.1.ihg (hJ.1.iGQ on) hJ.svv) (vx_cwSW 3 C.ts gL_acts_L_set rfl rfl rfl (by decide +kernel) ⟨Nat.le_of_ble_eq_true rfl, Nat.le_of_ble_eq_true rfl⟩) rfl rfl rfl (Nat.le_of_ble_eq_true rfl) dL_acts_1083 ⟨Nat.le_of_ble_eq_true rfl, Nat.le_of_ble_eq_true rfl⟩ (fun rv4 wv4 hp4 => ?_)
      obtain ⟨rfl, rfl⟩ : rv4 = -101 ∧ wv4 = ((wCo cI a b d mg pt bd tk ho ri lo fv hd lf la ++ wSo cI cW a b r2 hp rl cn be bw wo) ++ wL cI cZ cG a r nc nw cx cy ch rm on wx wy dm sv mu qq) := by
        rcases hp4 with ⟨_, hb, _⟩ | ⟨h1, _, h2⟩
        · exact absurd hb.1 (by decide)
        · exact ⟨h1, h2⟩
      refine g_iload C dL_acts_1086 rfl ?_
      refine g_if_le C 1107 dL_acts_1088 (by decide) (fun _ => ?_) (fun c9 => absurd (by decide) c9)
      refine g_bipush C (-101) dL_acts_1107 (by decide +kernel) ?_
      refine g_icmp_ne C 1116 dL_acts_1109 (by decide) (fun c9 => absurd rfl c9) (fun _ => ?_)
      refine g_iconst C 1 dL_acts_1112 (by decide +kernel) ?_
      refine g_goto C 1117 dL_acts_1113 (by decide) ?_
      exact gx_I (g_zret C hret (by decide +kernel) dL_acts_1117 (Nat.le_of_ble_eq_true rfl) (Nat.le_of_ble_eq_true rfl) ⟨rfl, ST_mk hJ⟩)
    · skip
      refine g_aload_n C dL_acts_1043 rfl ?_
      refine g_iconst C 3 dL_acts_1044 (by decide +kernel) ?_
      refine g_iald C 0 0 rfl rfl 3 rfl (by omega) (by decide) ho rfl dL_acts_1045 ?_
      refine g_istore C [some (.ref (d 0)), some (.int p1), some (.int p2), some (.ref (u 0)), some (.ref (u 1)), some (.ref (u 2)), none, none, some (.int (nI 21)), some (.int ho), none, none, none, none, none, none] dL_acts_1046 (by decide) rfl rfl ?_
      refine g_iconst C 0 dL_acts_1048 (by decide +kernel) ?_
      refine g_istore C [some (.ref (d 0)), some (.int p1), some (.int p2), some (.ref (u 0)), some (.ref (u 1)), some (.ref (u 2)), none, none, some (.int (nI 21)), some (.int ho), some (.int 0), none, none, none, none, none] dL_acts_1049 (by decide) rfl rfl ?_
      refine g_iload C dL_acts_1051 rfl ?_
      refine g_iload C dL_acts_1053 rfl ?_
      refine g_icmp_ge C 1079 dL_acts_1055 (by decide) (fun c9 => absurd c9 (by decide)) (fun _ => ?_)
      refine g_iload C dL_acts_1058 rfl ?_
      refine g_bipush C 21 dL_acts_1060 (by decide +kernel) ?_
      refine g_icmp_ge C 1079 dL_acts_1062 (by decide) (fun _ => ?_) (fun c9 => absurd (by decide) c9)
      refine g_aload_n C dL_acts_1079 rfl ?_
      refine g_iconst C 3 dL_acts_1080 (by decide +kernel) ?_
      refine g_iload C dL_acts_1081 rfl ?_
      refine gx_callH C hX (wA cI u nc nw tk ho ri lo mg pt bd cx cy ch rm on wx wy dm sv fv hd lf la) ((wCo cI a b d mg pt bd tk ho ri lo fv hd lf la ++ wSo cI cW a b r2 hp rl cn be bw wo) ++ wL cI cZ cG a r nc nw cx cy ch rm on wx wy dm sv mu qq) [.ref (d 0), .int 3, .int (nI 21)] (t_L_set_3 hl0 (by omega) (by omega) hJ.1.ihr hJ.1.ihg (hJ.1.iGQ on) hJ.svv) (vx_cwSW 3 C.ts gL_acts_L_set rfl rfl rfl (by decide +kernel) ⟨Nat.le_of_ble_eq_true rfl, Nat.le_of_ble_eq_true rfl⟩) rfl rfl rfl (Nat.le_of_ble_eq_true rfl) dL_acts_1083 ⟨Nat.le_of_ble_eq_true rfl, Nat.le_of_ble_eq_true rfl⟩ (fun rv5 wv5 hp5 => ?_)
      obtain ⟨rfl, rfl⟩ : rv5 = -101 ∧ wv5 = ((wCo cI a b d mg pt bd tk ho ri lo fv hd lf la ++ wSo cI cW a b r2 hp rl cn be bw wo) ++ wL cI cZ cG a r nc nw cx cy ch rm on wx wy dm sv mu qq) := by
        rcases hp5 with ⟨_, hb, _⟩ | ⟨h1, _, h2⟩
        · exact absurd hb.2 (by decide)
        · exact ⟨h1, h2⟩
      refine g_iload C dL_acts_1086 rfl ?_
      refine g_if_le C 1107 dL_acts_1088 (by decide) (fun c9 => absurd c9 (by decide)) (fun _ => ?_)
      refine g_iload C dL_acts_1091 rfl ?_
      refine g_bipush C 21 dL_acts_1093 (by decide +kernel) ?_
      refine g_icmp_ge C 1107 dL_acts_1095 (by decide) (fun _ => ?_) (fun c9 => absurd (by decide) c9)
      refine g_bipush C (-101) dL_acts_1107 (by decide +kernel) ?_
      refine g_icmp_ne C 1116 dL_acts_1109 (by decide) (fun c9 => absurd rfl c9) (fun _ => ?_)
      refine g_iconst C 1 dL_acts_1112 (by decide +kernel) ?_
      refine g_goto C 1117 dL_acts_1113 (by decide) ?_
      exact gx_I (g_zret C hret (by decide +kernel) dL_acts_1117 (Nat.le_of_ble_eq_true rfl) (Nat.le_of_ble_eq_true rfl) ⟨rfl, ST_mk hJ⟩)
  · skip
    refine g_if_ne C 1034 dL_acts_1018 (by decide) (fun c_1018 => ?_) (fun c_1018 => ?_)
    · skip
      refine g_iconst C 1 dL_acts_1034 (by decide +kernel) ?_
      refine g_iload_n C dL_acts_1035 rfl ?_
      refine g_iconst C 3 dL_acts_1036 (by decide +kernel) ?_
      refine g_callSi C (wA cI u nc nw tk ho ri lo mg pt bd cx cy ch rm on wx wy dm sv fv hd lf la ++ ((wCo cI a b d mg pt bd tk ho ri lo fv hd lf la ++ wSo cI cW a b r2 hp rl cn be bw wo) ++ wL cI cZ cG a r nc nw cx cy ch rm on wx wy dm sv mu qq)) [] [.int p2, .int 3] (t_L_some (by decide)) (va_cwS 2 C.ts gL_acts_L_some rfl rfl rfl (by decide +kernel) ⟨Nat.le_of_ble_eq_true rfl, Nat.le_of_ble_eq_true rfl⟩) rfl (List.append_nil _).symm rfl (Nat.le_of_ble_eq_true rfl) dL_acts_1037 ⟨Nat.le_of_ble_eq_true rfl, Nat.le_of_ble_eq_true rfl⟩ (fun rv6 wv6 hp6 => ?_)
      obtain ⟨hs6, rfl⟩ := hp6
      have hs6 : tB 0 (2 : Nat) rv6 := some_tB hs6 (by decide)
      obtain ⟨m6, hm6, rfl⟩ := nI_tB (N := 2) hs6
      refine g_w (ws' := (wA cI u nc nw tk ho ri lo mg pt bd cx cy ch rm on wx wy dm sv fv hd lf la ++ ((wCo cI a b d mg pt bd tk ho ri lo fv hd lf la ++ wSo cI cW a b r2 hp rl cn be bw wo) ++ wL cI cZ cG a r nc nw cx cy ch rm on wx wy dm sv mu qq))) (List.append_nil _) ?_
      refine g_iadd C (nI (1 + m6)) dL_acts_1040 (nI_k 1 m6 _ rfl) ?_
      refine g_widen (k' := 0) (n' := 0) (by omega) (by omega) ?_
      exact J1041 (1 + m6) (by omega)
    · skip
      refine g_iload_n C dL_acts_1021 rfl ?_
      refine g_iconst C 3 dL_acts_1022 (by decide +kernel) ?_
      refine g_ishr C (p2 >>> (3 &&& 31)) dL_acts_1023 rfl ?_
      refine g_iconst C 2 dL_acts_1024 (by decide +kernel) ?_
      refine g_callSi C (wA cI u nc nw tk ho ri lo mg pt bd cx cy ch rm on wx wy dm sv fv hd lf la ++ ((wCo cI a b d mg pt bd tk ho ri lo fv hd lf la ++ wSo cI cW a b r2 hp rl cn be bw wo) ++ wL cI cZ cG a r nc nw cx cy ch rm on wx wy dm sv mu qq)) [] [.int (p2 >>> (3 &&& 31)), .int 2] (t_L_some (by decide)) (va_cwS 2 C.ts gL_acts_L_some rfl rfl rfl (by decide +kernel) ⟨Nat.le_of_ble_eq_true rfl, Nat.le_of_ble_eq_true rfl⟩) rfl (List.append_nil _).symm rfl (Nat.le_of_ble_eq_true rfl) dL_acts_1025 ⟨Nat.le_of_ble_eq_true rfl, Nat.le_of_ble_eq_true rfl⟩ (fun rv7 wv7 hp7 => ?_)
      obtain ⟨hs7, rfl⟩ := hp7
      have hs7 : tB 0 (1 : Nat) rv7 := some_tB hs7 (by decide)
      obtain ⟨m7, hm7, rfl⟩ := nI_tB (N := 1) hs7
      refine g_w (ws' := (wA cI u nc nw tk ho ri lo mg pt bd cx cy ch rm on wx wy dm sv fv hd lf la ++ ((wCo cI a b d mg pt bd tk ho ri lo fv hd lf la ++ wSo cI cW a b r2 hp rl cn be bw wo) ++ wL cI cZ cG a r nc nw cx cy ch rm on wx wy dm sv mu qq))) (List.append_nil _) ?_
      refine g_bipush C 21 dL_acts_1028 (by decide +kernel) ?_
      refine g_imul C (nI (m7 * 21)) dL_acts_1030 (nI_mk m7 21 _ rfl) ?_
      refine g_goto C 1041 dL_acts_1031 (by decide) ?_
      refine g_widen (k' := 0) (n' := 0) (by omega) (by omega) ?_
      exact J1041 (m7 * 21) (by omega)
set_option maxHeartbeats 8000000 in
set_option maxRecDepth 100000 in
theorem acts_636 {l : Launch} (hl0 : l.stackTraces = false) {D : va_G} {cI cZ cJ cG cW : ClassId} {u : Nat → Nat} {nc nw : Nat} {tk ho ri lo mg pt bd : Int32} {cx cy ch rm on wx wy dm sv fv hd lf la : Nat → Int32} {a b d r2 : Nat → Nat} {hp rl cn be : Nat → Int32} {bw : Int32} {wo : Nat → Nat → Int32} {r : Nat → Nat} {mu : Nat → Int32} {qq : Nat → Nat → Int32} {p1 p2 : Int32} {p_ : Program} {e_ : Env} {s_ : State} {m_ : MethodId} {as_ : Array Value} {bl_ : List Frame} {me_ : Method} {co_ : Code} (C : CX p_ s_ m_ as_ me_ co_ cL_acts RL wsL_acts D (T5 cI cZ cJ cG cW) (va_A (wA cI u nc nw tk ho ri lo mg pt bd cx cy ch rm on wx wy dm sv fv hd lf la ++ ((wCo cI a b d mg pt bd tk ho ri lo fv hd lf la ++ wSo cI cW a b r2 hp rl cn be bw wo) ++ wL cI cZ cG a r nc nw cx cy ch rm on wx wy dm sv mu qq)) s_.heap.size) 16) (hret : me_.sig.returnType = some .boolean) (hX : XX (va_A (wA cI u nc nw tk ho ri lo mg pt bd cx cy ch rm on wx wy dm sv fv hd lf la ++ ((wCo cI a b d mg pt bd tk ho ri lo fv hd lf la ++ wSo cI cW a b r2 hp rl cn be bw wo) ++ wL cI cZ cG a r nc nw cx cy ch rm on wx wy dm sv mu qq)) s_.heap.size) s_ s_.heap) (hJ : JI nc nw cx cy ch rm on wx wy dm sv hd) :
    G p_ l e_ { frames := 12, cells := 20, slots := 120, locals := 400 } s_ m_ as_ bl_ me_ co_ D (va_A (wA cI u nc nw tk ho ri lo mg pt bd cx cy ch rm on wx wy dm sv fv hd lf la ++ ((wCo cI a b d mg pt bd tk ho ri lo fv hd lf la ++ wSo cI cW a b r2 hp rl cn be bw wo) ++ wL cI cZ cG a r nc nw cx cy ch rm on wx wy dm sv mu qq)) s_.heap.size) 16 (QXI bl_ (fun rv wv => rv = 1 ∧ ST cI cZ cG cW u a b d r r2 wv) (fun _ => False) D (T5 cI cZ cJ cG cW) (wA cI u nc nw tk ho ri lo mg pt bd cx cy ch rm on wx wy dm sv fv hd lf la ++ ((wCo cI a b d mg pt bd tk ho ri lo fv hd lf la ++ wSo cI cW a b r2 hp rl cn be bw wo) ++ wL cI cZ cG a r nc nw cx cy ch rm on wx wy dm sv mu qq)) as_ s_ 20 120) 0 0 (wA cI u nc nw tk ho ri lo mg pt bd cx cy ch rm on wx wy dm sv fv hd lf la ++ ((wCo cI a b d mg pt bd tk ho ri lo fv hd lf la ++ wSo cI cW a b r2 hp rl cn be bw wo) ++ wL cI cZ cG a r nc nw cx cy ch rm on wx wy dm sv mu qq)) [some (.ref (d 0)), some (.int p1), some (.int p2), some (.ref (u 0)), some (.ref (u 1)), some (.ref (u 2)), none, none, none, none, none, none, none, none, none, none] 636 [] := by
  have n4 := hJ.n4
  have w4 := hJ.w4
  refine g_iload_n C dL_acts_636 rfl ?_
  refine g_iconst C 4 dL_acts_637 (by decide +kernel) ?_
  refine g_icmp_ne C 770 dL_acts_638 (by decide) (fun c_638 => ?_) (fun c_638 => ?_)
  · skip
    refine g_iload_n C dL_acts_770 rfl ?_
    refine g_bipush C 9 dL_acts_771 (by decide +kernel) ?_
    refine g_icmp_ge C 1012 dL_acts_773 (by decide) (fun c_773 => ?_) (fun c_773 => ?_)
    · skip
      exact acts_tk hl0 C hret hX hJ
    · skip
      exact acts_mv hl0 C hret hX hJ
  · skip
    exact acts_k4 hl0 C hret hX hJ
set_option maxHeartbeats 8000000 in
set_option maxRecDepth 100000 in
theorem acts_k23 {l : Launch} (hl0 : l.stackTraces = false) {D : va_G} {cI cZ cJ cG cW : ClassId} {u : Nat → Nat} {nc nw : Nat} {tk ho ri lo mg pt bd : Int32} {cx cy ch rm on wx wy dm sv fv hd lf la : Nat → Int32} {a b d r2 : Nat → Nat} {hp rl cn be : Nat → Int32} {bw : Int32} {wo : Nat → Nat → Int32} {r : Nat → Nat} {mu : Nat → Int32} {qq : Nat → Nat → Int32} {p1 p2 : Int32} {p_ : Program} {e_ : Env} {s_ : State} {m_ : MethodId} {as_ : Array Value} {bl_ : List Frame} {me_ : Method} {co_ : Code} (C : CX p_ s_ m_ as_ me_ co_ cL_acts RL wsL_acts D (T5 cI cZ cJ cG cW) (va_A (wA cI u nc nw tk ho ri lo mg pt bd cx cy ch rm on wx wy dm sv fv hd lf la ++ ((wCo cI a b d mg pt bd tk ho ri lo fv hd lf la ++ wSo cI cW a b r2 hp rl cn be bw wo) ++ wL cI cZ cG a r nc nw cx cy ch rm on wx wy dm sv mu qq)) s_.heap.size) 16) (hret : me_.sig.returnType = some .boolean) (hX : XX (va_A (wA cI u nc nw tk ho ri lo mg pt bd cx cy ch rm on wx wy dm sv fv hd lf la ++ ((wCo cI a b d mg pt bd tk ho ri lo fv hd lf la ++ wSo cI cW a b r2 hp rl cn be bw wo) ++ wL cI cZ cG a r nc nw cx cy ch rm on wx wy dm sv mu qq)) s_.heap.size) s_ s_.heap) (hJ : JI nc nw cx cy ch rm on wx wy dm sv hd) :
    G p_ l e_ { frames := 12, cells := 20, slots := 120, locals := 400 } s_ m_ as_ bl_ me_ co_ D (va_A (wA cI u nc nw tk ho ri lo mg pt bd cx cy ch rm on wx wy dm sv fv hd lf la ++ ((wCo cI a b d mg pt bd tk ho ri lo fv hd lf la ++ wSo cI cW a b r2 hp rl cn be bw wo) ++ wL cI cZ cG a r nc nw cx cy ch rm on wx wy dm sv mu qq)) s_.heap.size) 16 (QXI bl_ (fun rv wv => rv = 1 ∧ ST cI cZ cG cW u a b d r r2 wv) (fun _ => False) D (T5 cI cZ cJ cG cW) (wA cI u nc nw tk ho ri lo mg pt bd cx cy ch rm on wx wy dm sv fv hd lf la ++ ((wCo cI a b d mg pt bd tk ho ri lo fv hd lf la ++ wSo cI cW a b r2 hp rl cn be bw wo) ++ wL cI cZ cG a r nc nw cx cy ch rm on wx wy dm sv mu qq)) as_ s_ 20 120) 0 0 (wA cI u nc nw tk ho ri lo mg pt bd cx cy ch rm on wx wy dm sv fv hd lf la ++ ((wCo cI a b d mg pt bd tk ho ri lo fv hd lf la ++ wSo cI cW a b r2 hp rl cn be bw wo) ++ wL cI cZ cG a r nc nw cx cy ch rm on wx wy dm sv mu qq)) [some (.ref (d 0)), some (.int p1), some (.int p2), some (.ref (u 0)), some (.ref (u 1)), some (.ref (u 2)), none, none, none, none, none, none, none, none, none, none] 369 [] := by
  have n4 := hJ.n4
  have w4 := hJ.w4
  refine g_iload_n C dL_acts_369 rfl ?_
  refine g_aload_n C dL_acts_370 rfl ?_
  refine g_iconst C 0 dL_acts_371 (by decide +kernel) ?_
  refine g_iald C 0 0 rfl rfl 0 rfl (by omega) (by decide) (nI nc) rfl dL_acts_372 ?_
  refine g_iconst C 1 dL_acts_373 (by decide +kernel) ?_
  refine g_iadd C (nI (nc + 1)) dL_acts_374 (nI_1 nc) ?_
  refine g_callSi C (wA cI u nc nw tk ho ri lo mg pt bd cx cy ch rm on wx wy dm sv fv hd lf la ++ ((wCo cI a b d mg pt bd tk ho ri lo fv hd lf la ++ wSo cI cW a b r2 hp rl cn be bw wo) ++ wL cI cZ cG a r nc nw cx cy ch rm on wx wy dm sv mu qq)) [] [.int p2, .int (nI (nc + 1))] (t_L_some (by rw [nI_toInt (by omega)]; omega)) (va_cwS 2 C.ts gL_acts_L_some rfl rfl rfl (by decide +kernel) ⟨Nat.le_of_ble_eq_true rfl, Nat.le_of_ble_eq_true rfl⟩) rfl (List.append_nil _).symm rfl (Nat.le_of_ble_eq_true rfl) dL_acts_375 ⟨Nat.le_of_ble_eq_true rfl, Nat.le_of_ble_eq_true rfl⟩ (fun rv1 wv1 hp1 => ?_)
  obtain ⟨hs1, rfl⟩ := hp1
  refine g_w (ws' := (wA cI u nc nw tk ho ri lo mg pt bd cx cy ch rm on wx wy dm sv fv hd lf la ++ ((wCo cI a b d mg pt bd tk ho ri lo fv hd lf la ++ wSo cI cW a b r2 hp rl cn be bw wo) ++ wL cI cZ cG a r nc nw cx cy ch rm on wx wy dm sv mu qq))) (List.append_nil _) ?_
  refine g_iload_n C dL_acts_378 rfl ?_
  refine g_bipush C 9 dL_acts_379 (by decide +kernel) ?_
  refine g_ishr C (p2 >>> (9 &&& 31)) dL_acts_381 rfl ?_
  refine g_bipush C 17 dL_acts_382 (by decide +kernel) ?_
  refine g_callSi C (wA cI u nc nw tk ho ri lo mg pt bd cx cy ch rm on wx wy dm sv fv hd lf la ++ ((wCo cI a b d mg pt bd tk ho ri lo fv hd lf la ++ wSo cI cW a b r2 hp rl cn be bw wo) ++ wL cI cZ cG a r nc nw cx cy ch rm on wx wy dm sv mu qq)) [] [.int (p2 >>> (9 &&& 31)), .int 17] (t_L_some (by decide)) (va_cwS 2 C.ts gL_acts_L_some rfl rfl rfl (by decide +kernel) ⟨Nat.le_of_ble_eq_true rfl, Nat.le_of_ble_eq_true rfl⟩) rfl (List.append_nil _).symm rfl (Nat.le_of_ble_eq_true rfl) dL_acts_384 ⟨Nat.le_of_ble_eq_true rfl, Nat.le_of_ble_eq_true rfl⟩ (fun rv2 wv2 hp2 => ?_)
  obtain ⟨hs2, rfl⟩ := hp2
  have hs2 : tB 0 16 rv2 := some_tB hs2 (by decide)
  refine g_w (ws' := (wA cI u nc nw tk ho ri lo mg pt bd cx cy ch rm on wx wy dm sv fv hd lf la ++ ((wCo cI a b d mg pt bd tk ho ri lo fv hd lf la ++ wSo cI cW a b r2 hp rl cn be bw wo) ++ wL cI cZ cG a r nc nw cx cy ch rm on wx wy dm sv mu qq))) (List.append_nil _) ?_
  refine g_join (σ := Int32) (fun va : Int32 => True) (fun va : Int32 => (wA cI u nc nw tk ho ri lo mg pt bd cx cy ch rm on wx wy dm sv fv hd lf la ++ ((wCo cI a b d mg pt bd tk ho ri lo fv hd lf la ++ wSo cI cW a b r2 hp rl cn be bw wo) ++ wL cI cZ cG a r nc nw cx cy ch rm on wx wy dm sv mu qq))) (fun va : Int32 => [some (.ref (d 0)), some (.int p1), some (.int p2), some (.ref (u 0)), some (.ref (u 1)), some (.ref (u 2)), none, none, none, none, none, none, none, none, none, none]) (fun va : Int32 => [.int va]) 396 (0) (0) (fun va hva => ?_) (fun J396 => ?_)
  · skip
    refine g_istore C [some (.ref (d 0)), some (.int p1), some (.int p2), some (.ref (u 0)), some (.ref (u 1)), some (.ref (u 2)), some (.int va), none, none, none, none, none, none, none, none, none] dL_acts_396 (by decide) rfl rfl ?_
    refine g_join (σ := Int32) (fun bb : Int32 => (bb = 1 ∧ IC nc va) ∨ (bb = 0 ∧ ¬ IC nc va)) (fun bb : Int32 => (wA cI u nc nw tk ho ri lo mg pt bd cx cy ch rm on wx wy dm sv fv hd lf la ++ ((wCo cI a b d mg pt bd tk ho ri lo fv hd lf la ++ wSo cI cW a b r2 hp rl cn be bw wo) ++ wL cI cZ cG a r nc nw cx cy ch rm on wx wy dm sv mu qq))) (fun bb : Int32 => [some (.ref (d 0)), some (.int p1), some (.int p2), some (.ref (u 0)), some (.ref (u 1)), some (.ref (u 2)), some (.int va), none, none, none, none, none, none, none, none, none]) (fun bb : Int32 => [.int bb]) 416 (0) (0) (fun bb hbb => ?_) (fun J416 => ?_)
    · skip
      rcases hbb with ⟨rfl, kc, hkc, rfl⟩ | ⟨rfl, hno⟩
      · skip
        have hkl : (nI kc).toNatClampNeg = kc := nI_clamp (by omega)
        refine g_istore C [some (.ref (d 0)), some (.int p1), some (.int p2), some (.ref (u 0)), some (.ref (u 1)), some (.ref (u 2)), some (.int (nI kc)), some (.int 1), none, none, none, none, none, none, none, none] dL_acts_416 (by decide) rfl rfl ?_
        refine g_iload_n C dL_acts_418 rfl ?_
        refine g_iconst C 2 dL_acts_419 (by decide +kernel) ?_
        refine g_icmp_ne C 543 dL_acts_420 (by decide) (fun c_420 => ?_) (fun c_420 => ?_)
        · skip
          refine g_iload_n C dL_acts_543 rfl ?_
          refine g_iconst C 3 dL_acts_544 (by decide +kernel) ?_
          refine g_icmp_ne C 636 dL_acts_545 (by decide) (fun c_545 => ?_) (fun c_545 => ?_)
          · skip
            refine g_mask [true, true, true, true, true, true, false, false, true, true, true, true, true, true, true, true] rfl ?_
            exact acts_636 hl0 C hret hX hJ
          · skip
            refine g_iload_n C dL_acts_548 rfl ?_
            refine g_iconst C 5 dL_acts_549 (by decide +kernel) ?_
            refine g_ishr C (p2 >>> (5 &&& 31)) dL_acts_550 rfl ?_
            refine g_bipush C 30 dL_acts_551 (by decide +kernel) ?_
            refine g_callSi C (wA cI u nc nw tk ho ri lo mg pt bd cx cy ch rm on wx wy dm sv fv hd lf la ++ ((wCo cI a b d mg pt bd tk ho ri lo fv hd lf la ++ wSo cI cW a b r2 hp rl cn be bw wo) ++ wL cI cZ cG a r nc nw cx cy ch rm on wx wy dm sv mu qq)) [] [.int (p2 >>> (5 &&& 31)), .int 30] (t_L_some (by decide)) (va_cwS 2 C.ts gL_acts_L_some rfl rfl rfl (by decide +kernel) ⟨Nat.le_of_ble_eq_true rfl, Nat.le_of_ble_eq_true rfl⟩) rfl (List.append_nil _).symm rfl (Nat.le_of_ble_eq_true rfl) dL_acts_553 ⟨Nat.le_of_ble_eq_true rfl, Nat.le_of_ble_eq_true rfl⟩ (fun rv3 wv3 hp3 => ?_)
            obtain ⟨hs3, rfl⟩ := hp3
            have hs3 : tB 0 29 rv3 := some_tB hs3 (by decide)
            refine g_w (ws' := (wA cI u nc nw tk ho ri lo mg pt bd cx cy ch rm on wx wy dm sv fv hd lf la ++ ((wCo cI a b d mg pt bd tk ho ri lo fv hd lf la ++ wSo cI cW a b r2 hp rl cn be bw wo) ++ wL cI cZ cG a r nc nw cx cy ch rm on wx wy dm sv mu qq))) (List.append_nil _) ?_
            refine g_join (σ := Int32) (fun vc : Int32 => vc = -1 ∨ tB 0 2 vc) (fun vc : Int32 => (wA cI u nc nw tk ho ri lo mg pt bd cx cy ch rm on wx wy dm sv fv hd lf la ++ ((wCo cI a b d mg pt bd tk ho ri lo fv hd lf la ++ wSo cI cW a b r2 hp rl cn be bw wo) ++ wL cI cZ cG a r nc nw cx cy ch rm on wx wy dm sv mu qq))) (fun vc : Int32 => [some (.ref (d 0)), some (.int p1), some (.int p2), some (.ref (u 0)), some (.ref (u 1)), some (.ref (u 2)), some (.int (nI kc)), some (.int 1), none, none, none, none, none, none, none, none]) (fun vc : Int32 => [.int vc]) 570 (0) (0) (fun vc hvc => ?_) (fun J570 => ?_)
            · skip
              refine g_istore C [some (.ref (d 0)), some (.int p1), some (.int p2), some (.ref (u 0)), some (.ref (u 1)), some (.ref (u 2)), some (.int (nI kc)), some (.int 1), some (.int vc), none, none, none, none, none, none, none] dL_acts_570 (by decide) rfl rfl ?_
              refine g_iload C dL_acts_572 rfl ?_
              refine g_if_ne C 582 dL_acts_574 (by decide) (fun _ => ?_) (fun c9 => absurd c9 (by decide))
              refine g_iload C dL_acts_582 rfl ?_
              refine g_if_ge C 592 dL_acts_584 (by decide) (fun c_584 => ?_) (fun c_584 => ?_)
              · skip
                have hr2 : 0 ≤ vc ∧ vc ≤ 2 := by
                  rcases hvc with q | q
                  · rw [q] at c_584; exact absurd c_584 (by decide)
                  · exact ⟨i_le.mpr q.1, i_le.mpr q.2⟩
                refine g_aload C dL_acts_592 rfl ?_
                refine g_bipush C 8 dL_acts_594 (by decide +kernel) ?_
                refine g_iload C dL_acts_596 rfl ?_
                refine g_iadd C (nI (8 + kc)) dL_acts_598 (nI_k 8 kc _ rfl) ?_
                refine g_iald C 1 0 rfl rfl (8 + kc) rfl (by omega) (by decide) (ch kc) (gA_2 (by omega)) dL_acts_599 ?_
                refine g_istore C [some (.ref (d 0)), some (.int p1), some (.int p2), some (.ref (u 0)), some (.ref (u 1)), some (.ref (u 2)), some (.int (nI kc)), some (.int 1), some (.int vc), some (.int (ch kc)), none, none, none, none, none, none] dL_acts_600 (by decide) rfl rfl ?_
                refine g_iload C dL_acts_602 rfl ?_
                refine g_if_lt C 617 dL_acts_604 (by decide) (fun c9 => absurd c9 (Int32.not_lt.mpr (hJ.1.2.2.1 kc hkc).2.2.1.1)) (fun _ => ?_)
                refine g_aload C dL_acts_607 rfl ?_
                refine g_bipush C 8 dL_acts_609 (by decide +kernel) ?_
                refine g_iload C dL_acts_611 rfl ?_
                refine g_iadd C (nI (8 + kc)) dL_acts_613 (nI_k 8 kc _ rfl) ?_
                refine g_iload C dL_acts_614 rfl ?_
                refine g_iast C 1 0 rfl rfl (8 + kc) rfl (by omega) (by decide) (wA cI u nc nw tk ho ri lo mg pt bd cx cy (upd ch kc vc) rm on wx wy dm sv fv hd lf la ++ ((wCo cI a b d mg pt bd tk ho ri lo fv hd lf la ++ wSo cI cW a b r2 hp rl cn be bw wo) ++ wL cI cZ cG a r nc nw cx cy ch rm on wx wy dm sv mu qq)) (by rw [ugA_2 (by omega)]; rfl) dL_acts_616 ?_
                refine g_aload_n C dL_acts_617 rfl ?_
                refine g_iload C dL_acts_618 rfl ?_
                refine g_iload C dL_acts_620 rfl ?_
                refine gx_callH C hX (wA cI u nc nw tk ho ri lo mg pt bd cx cy (upd ch kc vc) rm on wx wy dm sv fv hd lf la) ((wCo cI a b d mg pt bd tk ho ri lo fv hd lf la ++ wSo cI cW a b r2 hp rl cn be bw wo) ++ wL cI cZ cG a r nc nw cx cy ch rm on wx wy dm sv mu qq) [.ref (d 0), .int (nI kc), .int vc] (t_L_tuned hl0 (by omega)) (vx_cwSW 3 C.ts gL_acts_L_tuned rfl rfl rfl (by decide +kernel) ⟨Nat.le_of_ble_eq_true rfl, Nat.le_of_ble_eq_true rfl⟩) rfl rfl rfl (Nat.le_of_ble_eq_true rfl) dL_acts_622 ⟨Nat.le_of_ble_eq_true rfl, Nat.le_of_ble_eq_true rfl⟩ (fun rv4 wv4 hp4 => ?_)
                obtain ⟨rfl, rfl⟩ : rv4 = ch kc ∧ wv4 = ((wCo cI a b d mg pt bd tk ho ri lo fv hd lf la ++ wSo cI cW a b r2 hp rl cn be bw wo) ++ wL cI cZ cG a r nc nw cx cy (upd ch kc vc) rm on wx wy dm sv mu qq) := by
                  rcases hp4 with ⟨h1, _, h2⟩ | ⟨_, hb, _⟩ | ⟨_, hb, _⟩
                  · skip
                    rw [hkl] at h1 h2
                    exact ⟨h1, h2⟩
                  · exact absurd ⟨kc, hkc, rfl⟩ hb
                  · exact absurd hr2 hb.2
                refine g_iload C dL_acts_625 rfl ?_
                refine g_icmp_ne C 634 dL_acts_627 (by decide) (fun c9 => absurd rfl c9) (fun _ => ?_)
                refine g_iconst C 1 dL_acts_630 (by decide +kernel) ?_
                refine g_goto C 635 dL_acts_631 (by decide) ?_
                exact gx_I (g_zret C hret (by decide +kernel) dL_acts_635 (Nat.le_of_ble_eq_true rfl) (Nat.le_of_ble_eq_true rfl) ⟨rfl, ST_mk (JI_tune hJ hkc hr2)⟩)
              · skip
                refine g_bipush C (-102) dL_acts_587 (by decide +kernel) ?_
                refine g_goto C 600 dL_acts_589 (by decide) ?_
                refine g_istore C [some (.ref (d 0)), some (.int p1), some (.int p2), some (.ref (u 0)), some (.ref (u 1)), some (.ref (u 2)), some (.int (nI kc)), some (.int 1), some (.int vc), some (.int ((-102))), none, none, none, none, none, none] dL_acts_600 (by decide) rfl rfl ?_
                refine g_iload C dL_acts_602 rfl ?_
                refine g_if_lt C 617 dL_acts_604 (by decide) (fun _ => ?_) (fun c9 => absurd (by decide) c9)
                refine g_aload_n C dL_acts_617 rfl ?_
                refine g_iload C dL_acts_618 rfl ?_
                refine g_iload C dL_acts_620 rfl ?_
                refine gx_callH C hX (wA cI u nc nw tk ho ri lo mg pt bd cx cy ch rm on wx wy dm sv fv hd lf la) ((wCo cI a b d mg pt bd tk ho ri lo fv hd lf la ++ wSo cI cW a b r2 hp rl cn be bw wo) ++ wL cI cZ cG a r nc nw cx cy ch rm on wx wy dm sv mu qq) [.ref (d 0), .int (nI kc), .int vc] (t_L_tuned hl0 (by omega)) (vx_cwSW 3 C.ts gL_acts_L_tuned rfl rfl rfl (by decide +kernel) ⟨Nat.le_of_ble_eq_true rfl, Nat.le_of_ble_eq_true rfl⟩) rfl rfl rfl (Nat.le_of_ble_eq_true rfl) dL_acts_622 ⟨Nat.le_of_ble_eq_true rfl, Nat.le_of_ble_eq_true rfl⟩ (fun rv5 wv5 hp5 => ?_)
                obtain ⟨rfl, rfl⟩ : rv5 = -102 ∧ wv5 = ((wCo cI a b d mg pt bd tk ho ri lo fv hd lf la ++ wSo cI cW a b r2 hp rl cn be bw wo) ++ wL cI cZ cG a r nc nw cx cy ch rm on wx wy dm sv mu qq) := by
                  rcases hp5 with ⟨_, hb, _⟩ | ⟨_, hb, _⟩ | ⟨h1, _, h2⟩
                  · exact absurd hb.2.1 c_584
                  · exact absurd ⟨kc, hkc, rfl⟩ hb
                  · exact ⟨h1, h2⟩
                refine g_iload C dL_acts_625 rfl ?_
                refine g_icmp_ne C 634 dL_acts_627 (by decide) (fun c9 => absurd rfl c9) (fun _ => ?_)
                refine g_iconst C 1 dL_acts_630 (by decide +kernel) ?_
                refine g_goto C 635 dL_acts_631 (by decide) ?_
                exact gx_I (g_zret C hret (by decide +kernel) dL_acts_635 (Nat.le_of_ble_eq_true rfl) (Nat.le_of_ble_eq_true rfl) ⟨rfl, ST_mk hJ⟩)
            · skip
              refine g_if_ne C 563 dL_acts_556 (by decide) (fun c_556 => ?_) (fun c_556 => ?_)
              · skip
                refine g_iload_n C dL_acts_563 rfl ?_
                refine g_iconst C 5 dL_acts_564 (by decide +kernel) ?_
                refine g_ishr C (p2 >>> (5 &&& 31)) dL_acts_565 rfl ?_
                refine g_iconst C 3 dL_acts_566 (by decide +kernel) ?_
                refine g_callSi C (wA cI u nc nw tk ho ri lo mg pt bd cx cy ch rm on wx wy dm sv fv hd lf la ++ ((wCo cI a b d mg pt bd tk ho ri lo fv hd lf la ++ wSo cI cW a b r2 hp rl cn be bw wo) ++ wL cI cZ cG a r nc nw cx cy ch rm on wx wy dm sv mu qq)) [] [.int (p2 >>> (5 &&& 31)), .int 3] (t_L_some (by decide)) (va_cwS 2 C.ts gL_acts_L_some rfl rfl rfl (by decide +kernel) ⟨Nat.le_of_ble_eq_true rfl, Nat.le_of_ble_eq_true rfl⟩) rfl (List.append_nil _).symm rfl (Nat.le_of_ble_eq_true rfl) dL_acts_567 ⟨Nat.le_of_ble_eq_true rfl, Nat.le_of_ble_eq_true rfl⟩ (fun rv6 wv6 hp6 => ?_)
                obtain ⟨hs6, rfl⟩ := hp6
                have hs6 : tB 0 2 rv6 := some_tB hs6 (by decide)
                refine g_w (ws' := (wA cI u nc nw tk ho ri lo mg pt bd cx cy ch rm on wx wy dm sv fv hd lf la ++ ((wCo cI a b d mg pt bd tk ho ri lo fv hd lf la ++ wSo cI cW a b r2 hp rl cn be bw wo) ++ wL cI cZ cG a r nc nw cx cy ch rm on wx wy dm sv mu qq))) (List.append_nil _) ?_
                refine g_widen (k' := 0) (n' := 0) (by omega) (by omega) ?_
                exact J570 rv6 (Or.inr hs6)
              · skip
                refine g_iconst C (-1) dL_acts_559 (by decide +kernel) ?_
                refine g_goto C 570 dL_acts_560 (by decide) ?_
                refine g_widen (k' := 0) (n' := 0) (by omega) (by omega) ?_
                exact J570 ((-1)) (Or.inl rfl)
        · skip
          refine g_iload C dL_acts_423 rfl ?_
          refine g_if_ne C 445 dL_acts_425 (by decide) (fun _ => ?_) (fun c9 => absurd c9 (by decide))
          refine g_aload C dL_acts_445 rfl ?_
          refine g_bipush C 16 dL_acts_447 (by decide +kernel) ?_
          refine g_iload C dL_acts_449 rfl ?_
          refine g_iadd C (nI (16 + kc)) dL_acts_451 (nI_k 16 kc _ rfl) ?_
          refine g_iconst C 1 dL_acts_452 (by decide +kernel) ?_
          refine g_aload C dL_acts_453 rfl ?_
          refine g_bipush C 16 dL_acts_455 (by decide +kernel) ?_
          refine g_iload C dL_acts_457 rfl ?_
          refine g_iadd C (nI (16 + kc)) dL_acts_459 (nI_k 16 kc _ rfl) ?_
          refine g_iald C 1 0 rfl rfl (16 + kc) rfl (by omega) (by decide) (on kc) (gA_4 (by omega)) dL_acts_460 ?_
          refine g_isub C (ftn (on kc)) dL_acts_461 (one_sub (hJ.2.2.2.1 kc)) ?_
          refine g_iast C 1 0 rfl rfl (16 + kc) rfl (by omega) (by decide) (wA cI u nc nw tk ho ri lo mg pt bd cx cy ch rm (upd on kc (ftn (on kc))) wx wy dm sv fv hd lf la ++ ((wCo cI a b d mg pt bd tk ho ri lo fv hd lf la ++ wSo cI cW a b r2 hp rl cn be bw wo) ++ wL cI cZ cG a r nc nw cx cy ch rm on wx wy dm sv mu qq)) (by rw [ugA_4 (by omega)]; rfl) dL_acts_462 ?_
          refine g_iconst C 0 dL_acts_463 (by decide +kernel) ?_
          refine g_istore C [some (.ref (d 0)), some (.int p1), some (.int p2), some (.ref (u 0)), some (.ref (u 1)), some (.ref (u 2)), some (.int (nI kc)), some (.int 1), some (.int 0), none, none, none, none, none, none, none] dL_acts_464 (by decide) rfl rfl ?_
          refine g_loop2 0 ((sv, fv, hd)) (fun (i : Nat) (T : (Nat → Int32) × (Nat → Int32) × (Nat → Int32)) => i ≤ nw ∧ T = frw (nI kc) (sv, fv, hd) i) (fun (i : Nat) (T : (Nat → Int32) × (Nat → Int32) × (Nat → Int32)) => (wA cI u nc nw tk ho ri lo mg pt bd cx cy ch rm (upd on kc (ftn (on kc))) wx wy dm T.1 T.2.1 T.2.2 lf la ++ ((wCo cI a b d mg pt bd tk ho ri lo fv hd lf la ++ wSo cI cW a b r2 hp rl cn be bw wo) ++ wL cI cZ cG a r nc nw cx cy ch rm on wx wy dm sv mu qq))) (fun (i : Nat) (T : (Nat → Int32) × (Nat → Int32) × (Nat → Int32)) => [some (.ref (d 0)), some (.int p1), some (.int p2), some (.ref (u 0)), some (.ref (u 1)), some (.ref (u 2)), some (.int (nI kc)), some (.int 1), some (.int (nI i)), none, none, none, none, none, none, none]) (fun (i : Nat) (T : (Nat → Int32) × (Nat → Int32) × (Nat → Int32)) => nw - i) ⟨Nat.zero_le _, rfl⟩ rfl rfl (fun i T hI ih => ?_)
          obtain ⟨h1, h2⟩ := hI
          refine g_iload C dL_acts_466 rfl ?_
          refine g_aload_n C dL_acts_468 rfl ?_
          refine g_iconst C 1 dL_acts_469 (by decide +kernel) ?_
          refine g_iald C 0 0 rfl rfl 1 rfl (by omega) (by decide) (nI nw) rfl dL_acts_470 ?_
          refine g_icmp_ge C 520 dL_acts_471 (by decide) (fun c_471 => ?_) (fun c_471 => ?_)
          · skip
            have c_471 : nw ≤ i := (nI_leI (by omega) (by omega)).mp c_471
            have hT := turn_T hJ hkc (show T = frw (nI kc) (sv, fv, hd) nw by rw [h2, show i = nw by omega])
            subst hT
            refine g_w (ws' := (wA cI u nc nw tk ho ri lo mg pt bd cx cy ch rm (upd on kc (ftn (on kc))) wx wy dm ((if on kc = 0 then (sv, fv, hd) else frw (nI kc) (sv, fv, hd) nw).1) ((if on kc = 0 then (sv, fv, hd) else frw (nI kc) (sv, fv, hd) nw).2.1) ((if on kc = 0 then (sv, fv, hd) else frw (nI kc) (sv, fv, hd) nw).2.2) lf la ++ ((wCo cI a b d mg pt bd tk ho ri lo fv hd lf la ++ wSo cI cW a b r2 hp rl cn be bw wo) ++ wL cI cZ cG a r nc nw cx cy ch rm on wx wy dm sv mu qq))) rfl ?_
            refine g_aload_n C dL_acts_520 rfl ?_
            refine g_iload C dL_acts_521 rfl ?_
            refine gx_callH C hX (wA cI u nc nw tk ho ri lo mg pt bd cx cy ch rm (upd on kc (ftn (on kc))) wx wy dm ((if on kc = 0 then (sv, fv, hd) else frw (nI kc) (sv, fv, hd) nw).1) ((if on kc = 0 then (sv, fv, hd) else frw (nI kc) (sv, fv, hd) nw).2.1) ((if on kc = 0 then (sv, fv, hd) else frw (nI kc) (sv, fv, hd) nw).2.2) lf la) ((wCo cI a b d mg pt bd tk ho ri lo fv hd lf la ++ wSo cI cW a b r2 hp rl cn be bw wo) ++ wL cI cZ cG a r nc nw cx cy ch rm on wx wy dm sv mu qq) [.ref (d 0), .int (nI kc)] (t_L_turned hl0 (by omega) (by omega)) (vx_cwSW 2 C.ts gL_acts_L_turned rfl rfl rfl (by decide +kernel) ⟨Nat.le_of_ble_eq_true rfl, Nat.le_of_ble_eq_true rfl⟩) rfl rfl rfl (Nat.le_of_ble_eq_true rfl) dL_acts_523 ⟨Nat.le_of_ble_eq_true rfl, Nat.le_of_ble_eq_true rfl⟩ (fun rv7 wv7 hp7 => ?_)
            obtain ⟨rfl, rfl⟩ : rv7 = ftn (on kc) ∧ wv7 = ((wCo cI a b d mg pt bd tk ho ri lo ((if on kc = 0 then (sv, fv, hd) else frw (nI kc) (sv, fv, hd) nw).2.1) ((if on kc = 0 then (sv, fv, hd) else frw (nI kc) (sv, fv, hd) nw).2.2) lf la ++ wSo cI cW a b r2 hp rl cn be bw wo) ++ wL cI cZ cG a r nc nw cx cy ch rm (upd on kc (ftn (on kc))) wx wy dm ((if on kc = 0 then (sv, fv, hd) else frw (nI kc) (sv, fv, hd) nw).1) mu qq) := by
              rcases hp7 with ⟨h1, _, h2⟩ | ⟨_, hb, _⟩
              · skip
                rw [hkl] at h1 h2
                exact ⟨h1, h2⟩
              · exact absurd ⟨kc, hkc, rfl⟩ hb
            refine g_aload C dL_acts_526 rfl ?_
            refine g_bipush C 16 dL_acts_528 (by decide +kernel) ?_
            refine g_iload C dL_acts_530 rfl ?_
            refine g_iadd C (nI (16 + kc)) dL_acts_532 (nI_k 16 kc _ rfl) ?_
            refine g_iald C 1 0 rfl rfl (16 + kc) rfl (by omega) (by decide) (ftn (on kc)) (by rw [gA_4 (by omega)]; exact upd_at) dL_acts_533 ?_
            refine g_icmp_ne C 541 dL_acts_534 (by decide) (fun c9 => absurd rfl c9) (fun _ => ?_)
            refine g_iconst C 1 dL_acts_537 (by decide +kernel) ?_
            refine g_goto C 542 dL_acts_538 (by decide) ?_
            exact gx_I (g_zret C hret (by decide +kernel) dL_acts_542 (Nat.le_of_ble_eq_true rfl) (Nat.le_of_ble_eq_true rfl) ⟨rfl, ST_mk (JI_turn hJ hkc)⟩)
          · skip
            have c_471 : ¬ (nw ≤ i) := fun h9 => c_471 ((nI_leI (by omega) (by omega)).mpr h9)
            refine g_aload C dL_acts_474 rfl ?_
            refine g_bipush C 12 dL_acts_476 (by decide +kernel) ?_
            refine g_iload C dL_acts_478 rfl ?_
            refine g_iadd C (nI (12 + i)) dL_acts_480 (nI_k 12 i _ rfl) ?_
            refine g_iald C 2 0 rfl rfl (12 + i) rfl (by omega) (by decide) (T.1 i) (hA_3 (by omega)) dL_acts_481 ?_
            refine g_iload C dL_acts_482 rfl ?_
            refine g_icmp_ne C 514 dL_acts_484 (by decide) (fun c_484 => ?_) (fun c_484 => ?_)
            · skip
              refine g_iinc C (nI (i + 1)) [some (.ref (d 0)), some (.int p1), some (.int p2), some (.ref (u 0)), some (.ref (u 1)), some (.ref (u 2)), some (.int (nI kc)), some (.int 1), some (.int (nI (i + 1))), none, none, none, none, none, none, none] dL_acts_514 rfl (nI_1 i) (by decide) rfl rfl ?_
              refine g_goto C 466 dL_acts_517 (by decide) ?_
              exact ih (i + 1) T ⟨by omega, by rw [frw, ← h2, if_neg c_484]⟩ (by omega)
            · skip
              refine g_aload C dL_acts_487 rfl ?_
              refine g_bipush C 12 dL_acts_489 (by decide +kernel) ?_
              refine g_iload C dL_acts_491 rfl ?_
              refine g_iadd C (nI (12 + i)) dL_acts_493 (nI_k 12 i _ rfl) ?_
              refine g_iconst C (-1) dL_acts_494 (by decide +kernel) ?_
              refine g_iast C 2 0 rfl rfl (12 + i) rfl (by omega) (by decide) (wA cI u nc nw tk ho ri lo mg pt bd cx cy ch rm (upd on kc (ftn (on kc))) wx wy dm (upd T.1 i ((-1))) T.2.1 T.2.2 lf la ++ ((wCo cI a b d mg pt bd tk ho ri lo fv hd lf la ++ wSo cI cW a b r2 hp rl cn be bw wo) ++ wL cI cZ cG a r nc nw cx cy ch rm on wx wy dm sv mu qq)) (by rw [uhA_3 (by omega)]; rfl) dL_acts_495 ?_
              refine g_aload C dL_acts_496 rfl ?_
              refine g_bipush C 16 dL_acts_498 (by decide +kernel) ?_
              refine g_iload C dL_acts_500 rfl ?_
              refine g_iadd C (nI (16 + i)) dL_acts_502 (nI_k 16 i _ rfl) ?_
              refine g_iconst C (-1) dL_acts_503 (by decide +kernel) ?_
              refine g_iast C 2 0 rfl rfl (16 + i) rfl (by omega) (by decide) (wA cI u nc nw tk ho ri lo mg pt bd cx cy ch rm (upd on kc (ftn (on kc))) wx wy dm (upd T.1 i ((-1))) (upd T.2.1 i ((-1))) T.2.2 lf la ++ ((wCo cI a b d mg pt bd tk ho ri lo fv hd lf la ++ wSo cI cW a b r2 hp rl cn be bw wo) ++ wL cI cZ cG a r nc nw cx cy ch rm on wx wy dm sv mu qq)) (by rw [uhA_4 (by omega)]; rfl) dL_acts_504 ?_
              refine g_aload C dL_acts_505 rfl ?_
              refine g_bipush C 20 dL_acts_507 (by decide +kernel) ?_
              refine g_iload C dL_acts_509 rfl ?_
              refine g_iadd C (nI (20 + i)) dL_acts_511 (nI_k 20 i _ rfl) ?_
              refine g_iconst C 0 dL_acts_512 (by decide +kernel) ?_
              refine g_iast C 2 0 rfl rfl (20 + i) rfl (by omega) (by decide) (wA cI u nc nw tk ho ri lo mg pt bd cx cy ch rm (upd on kc (ftn (on kc))) wx wy dm (upd T.1 i ((-1))) (upd T.2.1 i ((-1))) (upd T.2.2 i 0) lf la ++ ((wCo cI a b d mg pt bd tk ho ri lo fv hd lf la ++ wSo cI cW a b r2 hp rl cn be bw wo) ++ wL cI cZ cG a r nc nw cx cy ch rm on wx wy dm sv mu qq)) (by rw [uhA_5 (by omega)]; rfl) dL_acts_513 ?_
              refine g_iinc C (nI (i + 1)) [some (.ref (d 0)), some (.int p1), some (.int p2), some (.ref (u 0)), some (.ref (u 1)), some (.ref (u 2)), some (.int (nI kc)), some (.int 1), some (.int (nI (i + 1))), none, none, none, none, none, none, none] dL_acts_514 rfl (nI_1 i) (by decide) rfl rfl ?_
              refine g_goto C 466 dL_acts_517 (by decide) ?_
              exact ih (i + 1) ((upd T.1 i (-1), upd T.2.1 i (-1), upd T.2.2 i 0)) ⟨by omega, by rw [frw, ← h2, if_pos c_484]⟩ (by omega)
      · skip
        refine g_istore C [some (.ref (d 0)), some (.int p1), some (.int p2), some (.ref (u 0)), some (.ref (u 1)), some (.ref (u 2)), some (.int va), some (.int 0), none, none, none, none, none, none, none, none] dL_acts_416 (by decide) rfl rfl ?_
        refine g_iload_n C dL_acts_418 rfl ?_
        refine g_iconst C 2 dL_acts_419 (by decide +kernel) ?_
        refine g_icmp_ne C 543 dL_acts_420 (by decide) (fun c_420 => ?_) (fun c_420 => ?_)
        · skip
          refine g_iload_n C dL_acts_543 rfl ?_
          refine g_iconst C 3 dL_acts_544 (by decide +kernel) ?_
          refine g_icmp_ne C 636 dL_acts_545 (by decide) (fun c_545 => ?_) (fun c_545 => ?_)
          · skip
            refine g_mask [true, true, true, true, true, true, false, false, true, true, true, true, true, true, true, true] rfl ?_
            exact acts_636 hl0 C hret hX hJ
          · skip
            refine g_iload_n C dL_acts_548 rfl ?_
            refine g_iconst C 5 dL_acts_549 (by decide +kernel) ?_
            refine g_ishr C (p2 >>> (5 &&& 31)) dL_acts_550 rfl ?_
            refine g_bipush C 30 dL_acts_551 (by decide +kernel) ?_
            refine g_callSi C (wA cI u nc nw tk ho ri lo mg pt bd cx cy ch rm on wx wy dm sv fv hd lf la ++ ((wCo cI a b d mg pt bd tk ho ri lo fv hd lf la ++ wSo cI cW a b r2 hp rl cn be bw wo) ++ wL cI cZ cG a r nc nw cx cy ch rm on wx wy dm sv mu qq)) [] [.int (p2 >>> (5 &&& 31)), .int 30] (t_L_some (by decide)) (va_cwS 2 C.ts gL_acts_L_some rfl rfl rfl (by decide +kernel) ⟨Nat.le_of_ble_eq_true rfl, Nat.le_of_ble_eq_true rfl⟩) rfl (List.append_nil _).symm rfl (Nat.le_of_ble_eq_true rfl) dL_acts_553 ⟨Nat.le_of_ble_eq_true rfl, Nat.le_of_ble_eq_true rfl⟩ (fun rv8 wv8 hp8 => ?_)
            obtain ⟨hs8, rfl⟩ := hp8
            have hs8 : tB 0 29 rv8 := some_tB hs8 (by decide)
            refine g_w (ws' := (wA cI u nc nw tk ho ri lo mg pt bd cx cy ch rm on wx wy dm sv fv hd lf la ++ ((wCo cI a b d mg pt bd tk ho ri lo fv hd lf la ++ wSo cI cW a b r2 hp rl cn be bw wo) ++ wL cI cZ cG a r nc nw cx cy ch rm on wx wy dm sv mu qq))) (List.append_nil _) ?_
            refine g_join (σ := Int32) (fun vc : Int32 => vc = -1 ∨ tB 0 2 vc) (fun vc : Int32 => (wA cI u nc nw tk ho ri lo mg pt bd cx cy ch rm on wx wy dm sv fv hd lf la ++ ((wCo cI a b d mg pt bd tk ho ri lo fv hd lf la ++ wSo cI cW a b r2 hp rl cn be bw wo) ++ wL cI cZ cG a r nc nw cx cy ch rm on wx wy dm sv mu qq))) (fun vc : Int32 => [some (.ref (d 0)), some (.int p1), some (.int p2), some (.ref (u 0)), some (.ref (u 1)), some (.ref (u 2)), some (.int va), some (.int 0), none, none, none, none, none, none, none, none]) (fun vc : Int32 => [.int vc]) 570 (0) (0) (fun vc hvc => ?_) (fun J570 => ?_)
            · skip
              refine g_istore C [some (.ref (d 0)), some (.int p1), some (.int p2), some (.ref (u 0)), some (.ref (u 1)), some (.ref (u 2)), some (.int va), some (.int 0), some (.int vc), none, none, none, none, none, none, none] dL_acts_570 (by decide) rfl rfl ?_
              refine g_iload C dL_acts_572 rfl ?_
              refine g_if_ne C 582 dL_acts_574 (by decide) (fun c9 => absurd rfl c9) (fun _ => ?_)
              refine g_bipush C (-101) dL_acts_577 (by decide +kernel) ?_
              refine g_goto C 600 dL_acts_579 (by decide) ?_
              refine g_istore C [some (.ref (d 0)), some (.int p1), some (.int p2), some (.ref (u 0)), some (.ref (u 1)), some (.ref (u 2)), some (.int va), some (.int 0), some (.int vc), some (.int ((-101))), none, none, none, none, none, none] dL_acts_600 (by decide) rfl rfl ?_
              refine g_iload C dL_acts_602 rfl ?_
              refine g_if_lt C 617 dL_acts_604 (by decide) (fun _ => ?_) (fun c9 => absurd (by decide) c9)
              refine g_aload_n C dL_acts_617 rfl ?_
              refine g_iload C dL_acts_618 rfl ?_
              refine g_iload C dL_acts_620 rfl ?_
              refine gx_callH C hX (wA cI u nc nw tk ho ri lo mg pt bd cx cy ch rm on wx wy dm sv fv hd lf la) ((wCo cI a b d mg pt bd tk ho ri lo fv hd lf la ++ wSo cI cW a b r2 hp rl cn be bw wo) ++ wL cI cZ cG a r nc nw cx cy ch rm on wx wy dm sv mu qq) [.ref (d 0), .int va, .int vc] (t_L_tuned hl0 (by omega)) (vx_cwSW 3 C.ts gL_acts_L_tuned rfl rfl rfl (by decide +kernel) ⟨Nat.le_of_ble_eq_true rfl, Nat.le_of_ble_eq_true rfl⟩) rfl rfl rfl (Nat.le_of_ble_eq_true rfl) dL_acts_622 ⟨Nat.le_of_ble_eq_true rfl, Nat.le_of_ble_eq_true rfl⟩ (fun rv9 wv9 hp9 => ?_)
              obtain ⟨rfl, rfl⟩ : rv9 = -101 ∧ wv9 = ((wCo cI a b d mg pt bd tk ho ri lo fv hd lf la ++ wSo cI cW a b r2 hp rl cn be bw wo) ++ wL cI cZ cG a r nc nw cx cy ch rm on wx wy dm sv mu qq) := by
                rcases hp9 with ⟨_, hb, _⟩ | ⟨h1, _, h2⟩ | ⟨_, hb, _⟩
                · exact absurd hb.1 hno
                · exact ⟨h1, h2⟩
                · exact absurd hb.1 hno
              refine g_iload C dL_acts_625 rfl ?_
              refine g_icmp_ne C 634 dL_acts_627 (by decide) (fun c9 => absurd rfl c9) (fun _ => ?_)
              refine g_iconst C 1 dL_acts_630 (by decide +kernel) ?_
              refine g_goto C 635 dL_acts_631 (by decide) ?_
              exact gx_I (g_zret C hret (by decide +kernel) dL_acts_635 (Nat.le_of_ble_eq_true rfl) (Nat.le_of_ble_eq_true rfl) ⟨rfl, ST_mk hJ⟩)
            · skip
              refine g_if_ne C 563 dL_acts_556 (by decide) (fun c_556 => ?_) (fun c_556 => ?_)
              · skip
                refine g_iload_n C dL_acts_563 rfl ?_
                refine g_iconst C 5 dL_acts_564 (by decide +kernel) ?_
                refine g_ishr C (p2 >>> (5 &&& 31)) dL_acts_565 rfl ?_
                refine g_iconst C 3 dL_acts_566 (by decide +kernel) ?_
                refine g_callSi C (wA cI u nc nw tk ho ri lo mg pt bd cx cy ch rm on wx wy dm sv fv hd lf la ++ ((wCo cI a b d mg pt bd tk ho ri lo fv hd lf la ++ wSo cI cW a b r2 hp rl cn be bw wo) ++ wL cI cZ cG a r nc nw cx cy ch rm on wx wy dm sv mu qq)) [] [.int (p2 >>> (5 &&& 31)), .int 3] (t_L_some (by decide)) (va_cwS 2 C.ts gL_acts_L_some rfl rfl rfl (by decide +kernel) ⟨Nat.le_of_ble_eq_true rfl, Nat.le_of_ble_eq_true rfl⟩) rfl (List.append_nil _).symm rfl (Nat.le_of_ble_eq_true rfl) dL_acts_567 ⟨Nat.le_of_ble_eq_true rfl, Nat.le_of_ble_eq_true rfl⟩ (fun rv10 wv10 hp10 => ?_)
                obtain ⟨hs10, rfl⟩ := hp10
                have hs10 : tB 0 2 rv10 := some_tB hs10 (by decide)
                refine g_w (ws' := (wA cI u nc nw tk ho ri lo mg pt bd cx cy ch rm on wx wy dm sv fv hd lf la ++ ((wCo cI a b d mg pt bd tk ho ri lo fv hd lf la ++ wSo cI cW a b r2 hp rl cn be bw wo) ++ wL cI cZ cG a r nc nw cx cy ch rm on wx wy dm sv mu qq))) (List.append_nil _) ?_
                refine g_widen (k' := 0) (n' := 0) (by omega) (by omega) ?_
                exact J570 rv10 (Or.inr hs10)
              · skip
                refine g_iconst C (-1) dL_acts_559 (by decide +kernel) ?_
                refine g_goto C 570 dL_acts_560 (by decide) ?_
                refine g_widen (k' := 0) (n' := 0) (by omega) (by omega) ?_
                exact J570 ((-1)) (Or.inl rfl)
        · skip
          refine g_iload C dL_acts_423 rfl ?_
          refine g_if_ne C 445 dL_acts_425 (by decide) (fun c9 => absurd rfl c9) (fun _ => ?_)
          refine g_aload_n C dL_acts_428 rfl ?_
          refine g_iload C dL_acts_429 rfl ?_
          refine gx_callH C hX (wA cI u nc nw tk ho ri lo mg pt bd cx cy ch rm on wx wy dm sv fv hd lf la) ((wCo cI a b d mg pt bd tk ho ri lo fv hd lf la ++ wSo cI cW a b r2 hp rl cn be bw wo) ++ wL cI cZ cG a r nc nw cx cy ch rm on wx wy dm sv mu qq) [.ref (d 0), .int va] (t_L_turned hl0 (by omega) (by omega)) (vx_cwSW 2 C.ts gL_acts_L_turned rfl rfl rfl (by decide +kernel) ⟨Nat.le_of_ble_eq_true rfl, Nat.le_of_ble_eq_true rfl⟩) rfl rfl rfl (Nat.le_of_ble_eq_true rfl) dL_acts_431 ⟨Nat.le_of_ble_eq_true rfl, Nat.le_of_ble_eq_true rfl⟩ (fun rv11 wv11 hp11 => ?_)
          obtain ⟨rfl, rfl⟩ : rv11 = -101 ∧ wv11 = ((wCo cI a b d mg pt bd tk ho ri lo fv hd lf la ++ wSo cI cW a b r2 hp rl cn be bw wo) ++ wL cI cZ cG a r nc nw cx cy ch rm on wx wy dm sv mu qq) := by
            rcases hp11 with ⟨_, hb, _⟩ | ⟨h1, _, h2⟩
            · exact absurd hb hno
            · exact ⟨h1, h2⟩
          refine g_bipush C (-101) dL_acts_434 (by decide +kernel) ?_
          refine g_icmp_ne C 443 dL_acts_436 (by decide) (fun c9 => absurd rfl c9) (fun _ => ?_)
          refine g_iconst C 1 dL_acts_439 (by decide +kernel) ?_
          refine g_goto C 444 dL_acts_440 (by decide) ?_
          exact gx_I (g_zret C hret (by decide +kernel) dL_acts_444 (Nat.le_of_ble_eq_true rfl) (Nat.le_of_ble_eq_true rfl) ⟨rfl, ST_mk hJ⟩)
    · skip
      refine g_iload C dL_acts_398 rfl ?_
      refine g_if_lt C 415 dL_acts_400 (by decide) (fun c_400 => ?_) (fun c_400 => ?_)
      · skip
        have hz : ¬ IC nc va := IC_no1 c_400 (by omega)
        refine g_iconst C 0 dL_acts_415 (by decide +kernel) ?_
        refine g_widen (k' := 0) (n' := 0) (by omega) (by omega) ?_
        exact J416 0 (Or.inr ⟨rfl, hz⟩)
      · skip
        refine g_iload C dL_acts_403 rfl ?_
        refine g_aload_n C dL_acts_405 rfl ?_
        refine g_iconst C 0 dL_acts_406 (by decide +kernel) ?_
        refine g_iald C 0 0 rfl rfl 0 rfl (by omega) (by decide) (nI nc) rfl dL_acts_407 ?_
        refine g_icmp_ge C 415 dL_acts_408 (by decide) (fun c_408 => ?_) (fun c_408 => ?_)
        · skip
          have hz : ¬ IC nc va := IC_no2 (by omega) (Int32.not_lt.mpr c_408)
          refine g_iconst C 0 dL_acts_415 (by decide +kernel) ?_
          refine g_widen (k' := 0) (n' := 0) (by omega) (by omega) ?_
          exact J416 0 (Or.inr ⟨rfl, hz⟩)
        · skip
          refine g_iconst C 1 dL_acts_411 (by decide +kernel) ?_
          refine g_goto C 416 dL_acts_412 (by decide) ?_
          refine g_widen (k' := 0) (n' := 0) (by omega) (by omega) ?_
          exact J416 1 (Or.inl ⟨rfl, IC_yes (by omega) c_400 (Int32.not_le.mp c_408)⟩)
  · skip
    refine g_if_ne C 394 dL_acts_387 (by decide) (fun c_387 => ?_) (fun c_387 => ?_)
    · skip
      refine g_iconst C 0 dL_acts_394 (by decide +kernel) ?_
      refine g_isub C (rv1 - 0) dL_acts_395 rfl ?_
      refine g_widen (k' := 0) (n' := 0) (by omega) (by omega) ?_
      exact J396 (rv1 - 0) trivial
    · skip
      refine g_iconst C 1 dL_acts_390 (by decide +kernel) ?_
      refine g_goto C 395 dL_acts_391 (by decide) ?_
      refine g_isub C (rv1 - 1) dL_acts_395 rfl ?_
      refine g_widen (k' := 0) (n' := 0) (by omega) (by omega) ?_
      exact J396 (rv1 - 1) trivial
set_option maxHeartbeats 1000000 in
set_option maxRecDepth 100000 in
theorem t_L_acts {l : Launch} (hl0 : l.stackTraces = false) {D : va_G} {cI cZ cJ cG cW : ClassId} {u : Nat → Nat} {nc nw : Nat} {tk ho ri lo mg pt bd : Int32} {cx cy ch rm on wx wy dm sv fv hd lf la : Nat → Int32} {a b d r2 : Nat → Nat} {hp rl cn be : Nat → Int32} {bw : Int32} {wo : Nat → Nat → Int32} {r : Nat → Nat} {mu : Nat → Int32} {qq : Nat → Nat → Int32} {p1 p2 : Int32} (hJ : JI nc nw cx cy ch rm on wx wy dm sv hd) : CxI l yL_acts wsL_acts 12 400 20 120 D (T5 cI cZ cJ cG cW) [.ref (d 0), .int p1, .int p2, .ref (u 0), .ref (u 1), .ref (u 2)] (wA cI u nc nw tk ho ri lo mg pt bd cx cy ch rm on wx wy dm sv fv hd lf la ++ ((wCo cI a b d mg pt bd tk ho ri lo fv hd lf la ++ wSo cI cW a b r2 hp rl cn be bw wo) ++ wL cI cZ cG a r nc nw cx cy ch rm on wx wy dm sv mu qq)) (fun rv wv => rv = 1 ∧ ST cI cZ cG cW u a b d r r2 wv) (fun Ev => False) := by
  refine cxI_of (cc := cL_acts) (maxL := 16) RL 10 [some (.ref (d 0)), some (.int p1), some (.int p2), some (.ref (u 0)), some (.ref (u 1)), some (.ref (u 2)), none, none, none, none, none, none, none, none, none, none] (by decide +kernel) rfl rfl (Nat.le_of_ble_eq_true rfl) rfl (fun p_ e_ s_ m_ as_ bl_ me_ co_ C hret hE hX => ?_)
  refine g_iload_n C dL_acts_0 rfl ?_
  refine g_if_ne C 197 dL_acts_1 (by decide) (fun c_1 => ?_) (fun c_1 => ?_)
  · skip
    refine g_iload_n C dL_acts_197 rfl ?_
    refine g_iconst C 1 dL_acts_198 (by decide +kernel) ?_
    refine g_icmp_ne C 369 dL_acts_199 (by decide) (fun c_199 => ?_) (fun c_199 => ?_)
    · skip
      exact acts_k23 hl0 C hret hX hJ
    · skip
      exact acts_k1 hl0 C hret hX hJ
  · skip
    exact acts_k0 hl0 C hret hX hJ
