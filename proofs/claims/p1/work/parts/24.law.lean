theorem th_m57 {a b c d e f g : Nat × th_V} : ∀ q ∈ [a, b, c, d, e], q ∈ [a, b, c, d, e, f, g] := fun q hq => List.mem_append_left [f, g] hq
set_option maxRecDepth 100000 in
set_option maxHeartbeats 4000000 in
theorem law_body (l : Launch) (hl : l.stackTraces = false) {z : th_Z} {rt : Option FieldType} {tb0 : List ExceptionTableEntry} {L : Nat} {xs : Nat → Int32} (C : th_C l z cb_L_law 7 rn_L room_1 rt tb0) (hX : th_SX z L xs) (hL : L ≤ 5)
    (hend : ∀ pc lv mu kc ks, decode cb_L_law pc = .ok (.ireturn, 1) → kc ≤ 600002 → ks ≤ 7302232 → th_G l z 7 pc lv [.inl 1] mu kc ks) : th_G l z 7 0 [(0, .inr (some (90, 0)))] [] hm_0 0 0 := by
  refine th_new (mu := hm_0) (t := 0) (i := 0) (n := 0) C dc_L_law_0 cl_0 (tb 60 (by decide +kernel) rfl) (tb 61 (by decide +kernel) rfl) (tb 47 (by decide +kernel) rfl) (by decide +kernel) (by decide +kernel) (by decide) (by decide +kernel) (th_hz hc_0 (by decide +kernel) hd_0) (by decide) (by decide) ?_
  change th_G l z _ _ _ _ hm_1 _ _
  refine th_dup C dc_L_law_3 ?_
  refine tk_callI (m1 := hm_46) C (k_H l hl) okI_L_54 rfl (Nat.le_of_ble_eq_true rfl) dc_L_law_4 rfl ?_
  refine th_astore_n (lv' := [(0, .inr (some (90, 0))), (1, .inr (some (0, 0)))]) C dc_L_law_7 rfl (by decide) rfl ?_
  refine th_new (mu := hm_46) (t := 20) (i := 0) (n := 86) C dc_L_law_8 cl_20 (tb 622 (by decide +kernel) rfl) (tb 623 (by decide +kernel) rfl) (tb 53 (by decide +kernel) rfl) (by decide +kernel) (by decide +kernel) (by decide) (by decide +kernel) (th_hz hc_46 (by decide +kernel) hd_20) (by decide) (by decide) ?_
  change th_G l z _ _ _ _ hm_47 _ _
  refine th_dup C dc_L_law_11 ?_
  refine tk_callI (m1 := hm_123) C (k_O l hl) okI_L_57 rfl (Nat.le_of_ble_eq_true rfl) dc_L_law_12 rfl ?_
  refine th_astore_n (lv' := [(0, .inr (some (90, 0))), (1, .inr (some (0, 0))), (2, .inr (some (20, 0)))]) C dc_L_law_15 rfl (by decide) rfl ?_
  refine th_iconst (v := 1) C dc_L_law_16 th_c_1 ?_
  refine th_newl (mu := hm_123) (t := 17) (i := 0) (N := 1) (n := 120) C dc_L_law_17 rfl (fun _ => rfl) (tb 884 (by decide +kernel) rfl) (by decide) (by decide) (by decide) (by decide +kernel) (by decide +kernel) (by decide) (by decide +kernel) (by rw [hc_123.1]; rfl) (fun k => (hc_123.2 17 0 k (by decide +kernel)).1) (by decide) (by decide) ?_
  refine th_astore_n (lv' := [(0, .inr (some (90, 0))), (1, .inr (some (0, 0))), (2, .inr (some (20, 0))), (3, .inr (some (17, 0)))]) C dc_L_law_19 rfl (by decide) rfl ?_
  refine th_conv ?_
  refine th_iconst (v := 0) C dc_L_law_20 th_c_0 ?_
  refine th_istore (lv' := [(0, .inr (some (90, 0))), (1, .inr (some (0, 0))), (2, .inr (some (20, 0))), (3, .inr (some (17, 0))), (4, .inl (0 : Int32))]) C dc_L_law_21 (by decide) rfl ?_
  obtain ⟨vL, hvL⟩ : ∃ q : Int32, Int32.ofNat L = q := ⟨_, rfl⟩
  have hv5 : vL.toInt = (L : Int) := by rw [← hvL]; exact th_of5 L (by omega)
  refine th_iload C dc_L_law_23 rfl ?_
  refine th_aload_n C dc_L_law_25 rfl rfl ?_
  refine th_xlen C hX dc_L_law_26 hvL ?_
  refine th_iconst (v := 5) C dc_L_law_27 th_c_5 ?_
  refine tq_isub C dc_L_law_28 rfl th_l_5 (fun x1 e1 a1 => ?_)
  refine tq_icmp_gt (tgt := 862) C dc_L_law_29 (by decide) th_l_0 rfl (fun c1 => ?_) (fun c1 => ?_)
  · refine th_iconst (v := 1) C dc_L_law_862 th_c_1 ?_
    exact hend _ _ _ _ _ dc_L_law_863 (by decide) (by decide)
  · have h5 : L = 5 := by omega
    have tail : ∀ (J : th_I) (kc ks : Nat), kc ≤ 1000 → ks ≤ 100000 → th_G l z 7 856 [(0, .inr (some (90, 0))), (1, .inr (some (0, 0))), (2, .inr (some (20, 0))), (3, .inr (some (17, 0))), (4, .inl (0 : Int32))] [] (th_m J) kc ks := by
      intro J kc ks hkc hks
      refine tq_iinc (lv' := fun rr => [(0, .inr (some (90, 0))), (1, .inr (some (0, 0))), (2, .inr (some (20, 0))), (3, .inr (some (17, 0))), (4, .inl rr)]) C dc_L_law_856 rfl (by decide) th_c_5 th_l_0 th_l_5 (fun rr => rfl) (fun x9 e9 a9 => ?_)
      refine th_goto (tgt := 23) C dc_L_law_859 (by decide) ?_
      refine th_iload C dc_L_law_23 rfl ?_
      refine th_aload_n C dc_L_law_25 rfl rfl ?_
      refine th_xlen C hX dc_L_law_26 hvL ?_
      refine th_iconst (v := 5) C dc_L_law_27 th_c_5 ?_
      refine tq_isub C dc_L_law_28 rfl th_l_5 (fun x2 e2 a2 => ?_)
      refine tq_icmp_gt (tgt := 862) C dc_L_law_29 (by decide) rfl rfl (fun c2 => ?_) (fun c2 => ?_)
      · refine th_iconst (v := 1) C dc_L_law_862 th_c_1 ?_
        exact hend _ _ _ _ _ dc_L_law_863 (by omega) (by omega)
      · exact absurd (by omega) c2
    refine th_aload_n C dc_L_law_32 rfl rfl ?_
    refine th_iload C dc_L_law_33 rfl ?_
    refine th_xld (n := 0) C hX dc_L_law_35 th_l_0 (by decide) (by omega) ?_
    refine th_bipush (v := 15) C dc_L_law_36 th_b_15 ?_
    refine th_iand C dc_L_law_38 ?_
    obtain ⟨sel, hsel⟩ : ∃ q : Int32, q = xs 0 &&& 15 := ⟨_, rfl⟩
    rw [← hsel]
    have w : sel.toInt = 0 ∨ sel.toInt = 1 ∨ sel.toInt = 2 ∨ sel.toInt = 3 ∨ sel.toInt = 4 ∨ sel.toInt = 5 ∨ sel.toInt = 6 ∨ sel.toInt = 7 ∨ sel.toInt = 8 ∨ sel.toInt = 9 ∨ sel.toInt = 10 ∨ sel.toInt = 11 ∨ (sel.toInt < 0 ∨ 11 < sel.toInt) := by omega
    rcases w with w | w | w | w | w | w | w | w | w | w | w | w | w
    · refine th_tableIn (tgt := 100) C dc_L_law_39 (by omega) (by omega) (by rw [w]; rfl) (by decide) ?_
      refine th_aload_n C dc_L_law_100 rfl rfl ?_
      refine th_aload_n C dc_L_law_101 rfl rfl ?_
      refine th_iload C dc_L_law_102 rfl ?_
      refine th_iconst (v := 1) C dc_L_law_104 th_c_1 ?_
      refine tq_iadd C dc_L_law_105 th_l_0 th_l_1 (fun y1 f1 b1 => ?_)
      refine th_xld (n := 1) C hX dc_L_law_106 rfl (by omega) (by omega) ?_
      refine th_aload_n C dc_L_law_107 rfl rfl ?_
      refine th_iload C dc_L_law_108 rfl ?_
      refine th_iconst (v := 2) C dc_L_law_110 th_c_2 ?_
      refine tq_iadd C dc_L_law_111 th_l_0 th_l_2 (fun y2 f2 b2 => ?_)
      refine th_xld (n := 2) C hX dc_L_law_112 rfl (by omega) (by omega) ?_
      refine th_aload_n C dc_L_law_113 rfl rfl ?_
      refine th_iload C dc_L_law_114 rfl ?_
      refine th_iconst (v := 3) C dc_L_law_116 th_c_3 ?_
      refine tq_iadd C dc_L_law_117 th_l_0 th_l_3 (fun y3 f3 b3 => ?_)
      refine th_xld (n := 3) C hX dc_L_law_118 rfl (by omega) (by omega) ?_
      refine th_aload_n C dc_L_law_119 rfl rfl ?_
      refine th_iload C dc_L_law_120 rfl ?_
      refine th_iconst (v := 4) C dc_L_law_122 th_c_4 ?_
      refine tq_iadd C dc_L_law_123 th_l_0 th_l_4 (fun y4 f4 b4 => ?_)
      refine th_xld (n := 4) C hX dc_L_law_124 rfl (by omega) (by omega) ?_
      refine th_aload_n C dc_L_law_125 rfl rfl ?_
      refine th_callW C (q_add l hl (xs 1) (xs 2) (xs 3) (xs 4)) okW_58 rfl (Nat.le_of_ble_eq_true rfl) dc_L_law_126 rfl (fun k1 J pk => ?_)
      obtain ⟨pk, fk⟩ := pk
      refine th_istore (lv' := [(0, .inr (some (90, 0))), (1, .inr (some (0, 0))), (2, .inr (some (20, 0))), (3, .inr (some (17, 0))), (4, .inl (0 : Int32)), (5, .inl k1)]) C dc_L_law_129 (by decide) rfl ?_
      refine th_aload_n C dc_L_law_131 rfl rfl ?_
      refine th_aload_n C dc_L_law_132 rfl rfl ?_
      refine th_iload C dc_L_law_133 rfl ?_
      refine th_iconst (v := 1) C dc_L_law_135 th_c_1 ?_
      refine tq_iadd C dc_L_law_136 th_l_0 th_l_1 (fun y1 f1 b1 => ?_)
      refine th_xld (n := 1) C hX dc_L_law_137 rfl (by omega) (by omega) ?_
      refine th_aload_n C dc_L_law_138 rfl rfl ?_
      refine th_iload C dc_L_law_139 rfl ?_
      refine th_iconst (v := 2) C dc_L_law_141 th_c_2 ?_
      refine tq_iadd C dc_L_law_142 th_l_0 th_l_2 (fun y2 f2 b2 => ?_)
      refine th_xld (n := 2) C hX dc_L_law_143 rfl (by omega) (by omega) ?_
      refine th_aload_n C dc_L_law_144 rfl rfl ?_
      refine th_iload C dc_L_law_145 rfl ?_
      refine th_iconst (v := 3) C dc_L_law_147 th_c_3 ?_
      refine tq_iadd C dc_L_law_148 th_l_0 th_l_3 (fun y3 f3 b3 => ?_)
      refine th_xld (n := 3) C hX dc_L_law_149 rfl (by omega) (by omega) ?_
      refine th_aload_n C dc_L_law_150 rfl rfl ?_
      refine th_iload C dc_L_law_151 rfl ?_
      refine th_iconst (v := 4) C dc_L_law_153 th_c_4 ?_
      refine tq_iadd C dc_L_law_154 th_l_0 th_l_4 (fun y4 f4 b4 => ?_)
      refine th_xld (n := 4) C hX dc_L_law_155 rfl (by omega) (by omega) ?_
      refine tq_callVi C (p_O_add l hl (A := J) J (xs 1) (xs 2) (xs 3) (xs 4) ⟨fk, fun _ _ => rfl⟩) ok_L_63 cl_20 (show 0 < 1 from by omega) rfl (Nat.le_of_ble_eq_true rfl) dc_L_law_156 rfl (fun b1 J2 pm => ?_)
      obtain ⟨pm, f17⟩ := pm
      refine th_istore (lv' := [(0, .inr (some (90, 0))), (1, .inr (some (0, 0))), (2, .inr (some (20, 0))), (3, .inr (some (17, 0))), (4, .inl (0 : Int32)), (5, .inl k1), (6, .inl b1)]) C dc_L_law_159 (by decide) rfl ?_
      rcases pk with ⟨k0, d1, a1⟩ | ⟨k0, d1⟩ <;> rcases pm with ⟨d2, a2, t2⟩ | ⟨d2, t2⟩
      · refine th_aload_n C dc_L_law_161 rfl rfl ?_
        refine tq_callVp C (p_O_thrown l hl J2) ok_L_64 cl_20 (show 0 < 1 from by omega) rfl (Nat.le_of_ble_eq_true rfl) dc_L_law_162 rfl (fun x3 p3 => ?_)
        refine th_iload C dc_L_law_165 rfl ?_
        refine tq_icmp_eq (tgt := 172) C dc_L_law_167 (by decide) rfl rfl (fun c3 => ?_) (fun c3 => absurd (by omega) c3)
        refine th_iload C dc_L_law_172 rfl ?_
        refine tq_if_ne (tgt := 189) C dc_L_law_174 (by decide) rfl (fun c4 => absurd k0 c4) (fun c4 => ?_)
        refine th_aload_n C dc_L_law_177 rfl rfl ?_
        refine th_iconst (v := 0) C dc_L_law_178 th_c_0 ?_
        refine th_lcm (mu := th_m J2) (n := 0) (b := b1) (tgt := 189) C dc_L_law_179 dc_L_law_180 dc_L_law_182 dc_L_law_183 dc_L_law_184 (by decide) rfl (show 0 < 1 from by omega) rfl (fun _ => rfl) (th_ixN th_l_0 (by decide) (show 0 < 1 from by omega)) ((f17 0 0).trans (th_eqi (by omega))) ?_
        refine th_goto (tgt := 856) C dc_L_law_189 (by decide) ?_
        refine th_sub C (lv' := [(0, .inr (some (90, 0))), (1, .inr (some (0, 0))), (2, .inr (some (20, 0))), (3, .inr (some (17, 0))), (4, .inl (0 : Int32))]) th_m57 ?_
        exact tail J2 _ _ (by decide) (by decide)
      · exact absurd d1 d2
      · exact absurd d2 d1
      · refine th_aload_n C dc_L_law_161 rfl rfl ?_
        refine tq_callVp C (p_O_thrown l hl J2) ok_L_64 cl_20 (show 0 < 1 from by omega) rfl (Nat.le_of_ble_eq_true rfl) dc_L_law_162 rfl (fun x3 p3 => ?_)
        refine th_iload C dc_L_law_165 rfl ?_
        refine tq_icmp_eq (tgt := 172) C dc_L_law_167 (by decide) rfl rfl (fun c3 => ?_) (fun c3 => absurd (by omega) c3)
        refine th_iload C dc_L_law_172 rfl ?_
        refine tq_if_ne (tgt := 189) C dc_L_law_174 (by decide) rfl (fun c4 => ?_) (fun c4 => absurd (by omega) c4)
        refine th_goto (tgt := 856) C dc_L_law_189 (by decide) ?_
        refine th_sub C (lv' := [(0, .inr (some (90, 0))), (1, .inr (some (0, 0))), (2, .inr (some (20, 0))), (3, .inr (some (17, 0))), (4, .inl (0 : Int32))]) th_m57 ?_
        exact tail J2 _ _ (by decide) (by decide)
    · refine th_tableIn (tgt := 192) C dc_L_law_39 (by omega) (by omega) (by rw [w]; rfl) (by decide) ?_
      refine th_aload_n C dc_L_law_192 rfl rfl ?_
      refine th_aload_n C dc_L_law_193 rfl rfl ?_
      refine th_iload C dc_L_law_194 rfl ?_
      refine th_iconst (v := 1) C dc_L_law_196 th_c_1 ?_
      refine tq_iadd C dc_L_law_197 th_l_0 th_l_1 (fun y1 f1 b1 => ?_)
      refine th_xld (n := 1) C hX dc_L_law_198 rfl (by omega) (by omega) ?_
      refine th_aload_n C dc_L_law_199 rfl rfl ?_
      refine th_callW C (q_clear l hl (xs 1)) okW_68 rfl (Nat.le_of_ble_eq_true rfl) dc_L_law_200 rfl (fun k1 J pk => ?_)
      obtain ⟨pk, fk⟩ := pk
      refine th_istore (lv' := [(0, .inr (some (90, 0))), (1, .inr (some (0, 0))), (2, .inr (some (20, 0))), (3, .inr (some (17, 0))), (4, .inl (0 : Int32)), (5, .inl k1)]) C dc_L_law_203 (by decide) rfl ?_
      refine th_aload_n C dc_L_law_205 rfl rfl ?_
      refine th_aload_n C dc_L_law_206 rfl rfl ?_
      refine th_iload C dc_L_law_207 rfl ?_
      refine th_iconst (v := 1) C dc_L_law_209 th_c_1 ?_
      refine tq_iadd C dc_L_law_210 th_l_0 th_l_1 (fun y1 f1 b1 => ?_)
      refine th_xld (n := 1) C hX dc_L_law_211 rfl (by omega) (by omega) ?_
      refine tq_callVi C (p_O_clear l hl (A := J) J (xs 1) ⟨fk, fun _ _ => rfl⟩) ok_L_71 cl_20 (show 0 < 1 from by omega) rfl (Nat.le_of_ble_eq_true rfl) dc_L_law_212 rfl (fun b1 J2 pm => ?_)
      obtain ⟨pm, f17⟩ := pm
      refine th_istore (lv' := [(0, .inr (some (90, 0))), (1, .inr (some (0, 0))), (2, .inr (some (20, 0))), (3, .inr (some (17, 0))), (4, .inl (0 : Int32)), (5, .inl k1), (6, .inl b1)]) C dc_L_law_215 (by decide) rfl ?_
      rcases pk with ⟨k0, d1, a1⟩ | ⟨k0, d1⟩ <;> rcases pm with ⟨d2, a2, t2⟩ | ⟨d2, t2⟩
      · refine th_aload_n C dc_L_law_217 rfl rfl ?_
        refine tq_callVp C (p_O_thrown l hl J2) ok_L_64 cl_20 (show 0 < 1 from by omega) rfl (Nat.le_of_ble_eq_true rfl) dc_L_law_218 rfl (fun x3 p3 => ?_)
        refine th_iload C dc_L_law_221 rfl ?_
        refine tq_icmp_eq (tgt := 228) C dc_L_law_223 (by decide) rfl rfl (fun c3 => ?_) (fun c3 => absurd (by omega) c3)
        refine th_iload C dc_L_law_228 rfl ?_
        refine tq_if_ne (tgt := 245) C dc_L_law_230 (by decide) rfl (fun c4 => absurd k0 c4) (fun c4 => ?_)
        refine th_aload_n C dc_L_law_233 rfl rfl ?_
        refine th_iconst (v := 0) C dc_L_law_234 th_c_0 ?_
        refine th_lcm (mu := th_m J2) (n := 0) (b := b1) (tgt := 245) C dc_L_law_235 dc_L_law_236 dc_L_law_238 dc_L_law_239 dc_L_law_240 (by decide) rfl (show 0 < 1 from by omega) rfl (fun _ => rfl) (th_ixN th_l_0 (by decide) (show 0 < 1 from by omega)) ((f17 0 0).trans (th_eqi (by omega))) ?_
        refine th_goto (tgt := 856) C dc_L_law_245 (by decide) ?_
        refine th_sub C (lv' := [(0, .inr (some (90, 0))), (1, .inr (some (0, 0))), (2, .inr (some (20, 0))), (3, .inr (some (17, 0))), (4, .inl (0 : Int32))]) th_m57 ?_
        exact tail J2 _ _ (by decide) (by decide)
      · exact absurd d1 d2
      · exact absurd d2 d1
      · refine th_aload_n C dc_L_law_217 rfl rfl ?_
        refine tq_callVp C (p_O_thrown l hl J2) ok_L_64 cl_20 (show 0 < 1 from by omega) rfl (Nat.le_of_ble_eq_true rfl) dc_L_law_218 rfl (fun x3 p3 => ?_)
        refine th_iload C dc_L_law_221 rfl ?_
        refine tq_icmp_eq (tgt := 228) C dc_L_law_223 (by decide) rfl rfl (fun c3 => ?_) (fun c3 => absurd (by omega) c3)
        refine th_iload C dc_L_law_228 rfl ?_
        refine tq_if_ne (tgt := 245) C dc_L_law_230 (by decide) rfl (fun c4 => ?_) (fun c4 => absurd (by omega) c4)
        refine th_goto (tgt := 856) C dc_L_law_245 (by decide) ?_
        refine th_sub C (lv' := [(0, .inr (some (90, 0))), (1, .inr (some (0, 0))), (2, .inr (some (20, 0))), (3, .inr (some (17, 0))), (4, .inl (0 : Int32))]) th_m57 ?_
        exact tail J2 _ _ (by decide) (by decide)
    · refine th_tableIn (tgt := 248) C dc_L_law_39 (by omega) (by omega) (by rw [w]; rfl) (by decide) ?_
      refine th_aload_n C dc_L_law_248 rfl rfl ?_
      refine th_aload_n C dc_L_law_249 rfl rfl ?_
      refine th_iload C dc_L_law_250 rfl ?_
      refine th_iconst (v := 1) C dc_L_law_252 th_c_1 ?_
      refine tq_iadd C dc_L_law_253 th_l_0 th_l_1 (fun y1 f1 b1 => ?_)
      refine th_xld (n := 1) C hX dc_L_law_254 rfl (by omega) (by omega) ?_
      refine th_aload_n C dc_L_law_255 rfl rfl ?_
      refine th_callW C (q_start l hl (xs 1)) okW_72 rfl (Nat.le_of_ble_eq_true rfl) dc_L_law_256 rfl (fun k1 J pk => ?_)
      obtain ⟨pk, fk⟩ := pk
      refine th_istore (lv' := [(0, .inr (some (90, 0))), (1, .inr (some (0, 0))), (2, .inr (some (20, 0))), (3, .inr (some (17, 0))), (4, .inl (0 : Int32)), (5, .inl k1)]) C dc_L_law_259 (by decide) rfl ?_
      refine th_aload_n C dc_L_law_261 rfl rfl ?_
      refine th_aload_n C dc_L_law_262 rfl rfl ?_
      refine th_iload C dc_L_law_263 rfl ?_
      refine th_iconst (v := 1) C dc_L_law_265 th_c_1 ?_
      refine tq_iadd C dc_L_law_266 th_l_0 th_l_1 (fun y1 f1 b1 => ?_)
      refine th_xld (n := 1) C hX dc_L_law_267 rfl (by omega) (by omega) ?_
      refine tq_callVi C (p_O_start l hl (A := J) J (xs 1) ⟨fk, fun _ _ => rfl⟩) ok_L_74 cl_20 (show 0 < 1 from by omega) rfl (Nat.le_of_ble_eq_true rfl) dc_L_law_268 rfl (fun b1 J2 pm => ?_)
      obtain ⟨pm, f17⟩ := pm
      refine th_istore (lv' := [(0, .inr (some (90, 0))), (1, .inr (some (0, 0))), (2, .inr (some (20, 0))), (3, .inr (some (17, 0))), (4, .inl (0 : Int32)), (5, .inl k1), (6, .inl b1)]) C dc_L_law_271 (by decide) rfl ?_
      rcases pk with ⟨k0, d1, a1⟩ | ⟨k0, d1⟩ <;> rcases pm with ⟨d2, a2, t2⟩ | ⟨d2, t2⟩
      · refine th_aload_n C dc_L_law_273 rfl rfl ?_
        refine tq_callVp C (p_O_thrown l hl J2) ok_L_64 cl_20 (show 0 < 1 from by omega) rfl (Nat.le_of_ble_eq_true rfl) dc_L_law_274 rfl (fun x3 p3 => ?_)
        refine th_iload C dc_L_law_277 rfl ?_
        refine tq_icmp_eq (tgt := 284) C dc_L_law_279 (by decide) rfl rfl (fun c3 => ?_) (fun c3 => absurd (by omega) c3)
        refine th_iload C dc_L_law_284 rfl ?_
        refine tq_if_ne (tgt := 301) C dc_L_law_286 (by decide) rfl (fun c4 => absurd k0 c4) (fun c4 => ?_)
        refine th_aload_n C dc_L_law_289 rfl rfl ?_
        refine th_iconst (v := 0) C dc_L_law_290 th_c_0 ?_
        refine th_lcm (mu := th_m J2) (n := 0) (b := b1) (tgt := 301) C dc_L_law_291 dc_L_law_292 dc_L_law_294 dc_L_law_295 dc_L_law_296 (by decide) rfl (show 0 < 1 from by omega) rfl (fun _ => rfl) (th_ixN th_l_0 (by decide) (show 0 < 1 from by omega)) ((f17 0 0).trans (th_eqi (by omega))) ?_
        refine th_goto (tgt := 856) C dc_L_law_301 (by decide) ?_
        refine th_sub C (lv' := [(0, .inr (some (90, 0))), (1, .inr (some (0, 0))), (2, .inr (some (20, 0))), (3, .inr (some (17, 0))), (4, .inl (0 : Int32))]) th_m57 ?_
        exact tail J2 _ _ (by decide) (by decide)
      · exact absurd d1 d2
      · exact absurd d2 d1
      · refine th_aload_n C dc_L_law_273 rfl rfl ?_
        refine tq_callVp C (p_O_thrown l hl J2) ok_L_64 cl_20 (show 0 < 1 from by omega) rfl (Nat.le_of_ble_eq_true rfl) dc_L_law_274 rfl (fun x3 p3 => ?_)
        refine th_iload C dc_L_law_277 rfl ?_
        refine tq_icmp_eq (tgt := 284) C dc_L_law_279 (by decide) rfl rfl (fun c3 => ?_) (fun c3 => absurd (by omega) c3)
        refine th_iload C dc_L_law_284 rfl ?_
        refine tq_if_ne (tgt := 301) C dc_L_law_286 (by decide) rfl (fun c4 => ?_) (fun c4 => absurd (by omega) c4)
        refine th_goto (tgt := 856) C dc_L_law_301 (by decide) ?_
        refine th_sub C (lv' := [(0, .inr (some (90, 0))), (1, .inr (some (0, 0))), (2, .inr (some (20, 0))), (3, .inr (some (17, 0))), (4, .inl (0 : Int32))]) th_m57 ?_
        exact tail J2 _ _ (by decide) (by decide)
    · refine th_tableIn (tgt := 304) C dc_L_law_39 (by omega) (by omega) (by rw [w]; rfl) (by decide) ?_
      refine th_aload_n C dc_L_law_304 rfl rfl ?_
      refine th_aload_n C dc_L_law_305 rfl rfl ?_
      refine th_iload C dc_L_law_306 rfl ?_
      refine th_iconst (v := 1) C dc_L_law_308 th_c_1 ?_
      refine tq_iadd C dc_L_law_309 th_l_0 th_l_1 (fun y1 f1 b1 => ?_)
      refine th_xld (n := 1) C hX dc_L_law_310 rfl (by omega) (by omega) ?_
      refine th_aload_n C dc_L_law_311 rfl rfl ?_
      refine th_callW C (q_run l hl (xs 1)) okW_75 rfl (Nat.le_of_ble_eq_true rfl) dc_L_law_312 rfl (fun k1 J pk => ?_)
      obtain ⟨pk, fk⟩ := pk
      refine th_istore (lv' := [(0, .inr (some (90, 0))), (1, .inr (some (0, 0))), (2, .inr (some (20, 0))), (3, .inr (some (17, 0))), (4, .inl (0 : Int32)), (5, .inl k1)]) C dc_L_law_315 (by decide) rfl ?_
      refine th_aload_n C dc_L_law_317 rfl rfl ?_
      refine th_aload_n C dc_L_law_318 rfl rfl ?_
      refine th_iload C dc_L_law_319 rfl ?_
      refine th_iconst (v := 1) C dc_L_law_321 th_c_1 ?_
      refine tq_iadd C dc_L_law_322 th_l_0 th_l_1 (fun y1 f1 b1 => ?_)
      refine th_xld (n := 1) C hX dc_L_law_323 rfl (by omega) (by omega) ?_
      refine tq_callVi C (p_O_run l hl (A := J) J (xs 1) ⟨fk, fun _ _ => rfl⟩) ok_L_77 cl_20 (show 0 < 1 from by omega) rfl (Nat.le_of_ble_eq_true rfl) dc_L_law_324 rfl (fun b1 J2 pm => ?_)
      obtain ⟨pm, f17⟩ := pm
      refine th_istore (lv' := [(0, .inr (some (90, 0))), (1, .inr (some (0, 0))), (2, .inr (some (20, 0))), (3, .inr (some (17, 0))), (4, .inl (0 : Int32)), (5, .inl k1), (6, .inl b1)]) C dc_L_law_327 (by decide) rfl ?_
      rcases pk with ⟨k0, d1, a1⟩ | ⟨k0, d1⟩ <;> rcases pm with ⟨d2, a2, t2⟩ | ⟨d2, t2⟩
      · refine th_aload_n C dc_L_law_329 rfl rfl ?_
        refine tq_callVp C (p_O_thrown l hl J2) ok_L_64 cl_20 (show 0 < 1 from by omega) rfl (Nat.le_of_ble_eq_true rfl) dc_L_law_330 rfl (fun x3 p3 => ?_)
        refine th_iload C dc_L_law_333 rfl ?_
        refine tq_icmp_eq (tgt := 340) C dc_L_law_335 (by decide) rfl rfl (fun c3 => ?_) (fun c3 => absurd (by omega) c3)
        refine th_iload C dc_L_law_340 rfl ?_
        refine tq_if_ne (tgt := 357) C dc_L_law_342 (by decide) rfl (fun c4 => absurd k0 c4) (fun c4 => ?_)
        refine th_aload_n C dc_L_law_345 rfl rfl ?_
        refine th_iconst (v := 0) C dc_L_law_346 th_c_0 ?_
        refine th_lcm (mu := th_m J2) (n := 0) (b := b1) (tgt := 357) C dc_L_law_347 dc_L_law_348 dc_L_law_350 dc_L_law_351 dc_L_law_352 (by decide) rfl (show 0 < 1 from by omega) rfl (fun _ => rfl) (th_ixN th_l_0 (by decide) (show 0 < 1 from by omega)) ((f17 0 0).trans (th_eqi (by omega))) ?_
        refine th_goto (tgt := 856) C dc_L_law_357 (by decide) ?_
        refine th_sub C (lv' := [(0, .inr (some (90, 0))), (1, .inr (some (0, 0))), (2, .inr (some (20, 0))), (3, .inr (some (17, 0))), (4, .inl (0 : Int32))]) th_m57 ?_
        exact tail J2 _ _ (by decide) (by decide)
      · exact absurd d1 d2
      · exact absurd d2 d1
      · refine th_aload_n C dc_L_law_329 rfl rfl ?_
        refine tq_callVp C (p_O_thrown l hl J2) ok_L_64 cl_20 (show 0 < 1 from by omega) rfl (Nat.le_of_ble_eq_true rfl) dc_L_law_330 rfl (fun x3 p3 => ?_)
        refine th_iload C dc_L_law_333 rfl ?_
        refine tq_icmp_eq (tgt := 340) C dc_L_law_335 (by decide) rfl rfl (fun c3 => ?_) (fun c3 => absurd (by omega) c3)
        refine th_iload C dc_L_law_340 rfl ?_
        refine tq_if_ne (tgt := 357) C dc_L_law_342 (by decide) rfl (fun c4 => ?_) (fun c4 => absurd (by omega) c4)
        refine th_goto (tgt := 856) C dc_L_law_357 (by decide) ?_
        refine th_sub C (lv' := [(0, .inr (some (90, 0))), (1, .inr (some (0, 0))), (2, .inr (some (20, 0))), (3, .inr (some (17, 0))), (4, .inl (0 : Int32))]) th_m57 ?_
        exact tail J2 _ _ (by decide) (by decide)
    · refine th_tableIn (tgt := 360) C dc_L_law_39 (by omega) (by omega) (by rw [w]; rfl) (by decide) ?_
      refine th_aload_n C dc_L_law_360 rfl rfl ?_
      refine th_aload_n C dc_L_law_361 rfl rfl ?_
      refine th_iload C dc_L_law_362 rfl ?_
      refine th_iconst (v := 1) C dc_L_law_364 th_c_1 ?_
      refine tq_iadd C dc_L_law_365 th_l_0 th_l_1 (fun y1 f1 b1 => ?_)
      refine th_xld (n := 1) C hX dc_L_law_366 rfl (by omega) (by omega) ?_
      refine th_aload_n C dc_L_law_367 rfl rfl ?_
      refine th_callW C (q_interrupt l hl (xs 1)) okW_78 rfl (Nat.le_of_ble_eq_true rfl) dc_L_law_368 rfl (fun k1 J pk => ?_)
      obtain ⟨pk, fk⟩ := pk
      refine th_istore (lv' := [(0, .inr (some (90, 0))), (1, .inr (some (0, 0))), (2, .inr (some (20, 0))), (3, .inr (some (17, 0))), (4, .inl (0 : Int32)), (5, .inl k1)]) C dc_L_law_371 (by decide) rfl ?_
      refine th_aload_n C dc_L_law_373 rfl rfl ?_
      refine th_aload_n C dc_L_law_374 rfl rfl ?_
      refine th_iload C dc_L_law_375 rfl ?_
      refine th_iconst (v := 1) C dc_L_law_377 th_c_1 ?_
      refine tq_iadd C dc_L_law_378 th_l_0 th_l_1 (fun y1 f1 b1 => ?_)
      refine th_xld (n := 1) C hX dc_L_law_379 rfl (by omega) (by omega) ?_
      refine tq_callVi C (p_O_interrupt l hl (A := J) J (xs 1) ⟨fk, fun _ _ => rfl⟩) ok_L_80 cl_20 (show 0 < 1 from by omega) rfl (Nat.le_of_ble_eq_true rfl) dc_L_law_380 rfl (fun b1 J2 pm => ?_)
      obtain ⟨pm, f17⟩ := pm
      refine th_istore (lv' := [(0, .inr (some (90, 0))), (1, .inr (some (0, 0))), (2, .inr (some (20, 0))), (3, .inr (some (17, 0))), (4, .inl (0 : Int32)), (5, .inl k1), (6, .inl b1)]) C dc_L_law_383 (by decide) rfl ?_
      rcases pk with ⟨k0, d1, a1⟩ | ⟨k0, d1⟩ <;> rcases pm with ⟨d2, a2, t2⟩ | ⟨d2, t2⟩
      · refine th_aload_n C dc_L_law_385 rfl rfl ?_
        refine tq_callVp C (p_O_thrown l hl J2) ok_L_64 cl_20 (show 0 < 1 from by omega) rfl (Nat.le_of_ble_eq_true rfl) dc_L_law_386 rfl (fun x3 p3 => ?_)
        refine th_iload C dc_L_law_389 rfl ?_
        refine tq_icmp_eq (tgt := 396) C dc_L_law_391 (by decide) rfl rfl (fun c3 => ?_) (fun c3 => absurd (by omega) c3)
        refine th_iload C dc_L_law_396 rfl ?_
        refine tq_if_ne (tgt := 413) C dc_L_law_398 (by decide) rfl (fun c4 => absurd k0 c4) (fun c4 => ?_)
        refine th_aload_n C dc_L_law_401 rfl rfl ?_
        refine th_iconst (v := 0) C dc_L_law_402 th_c_0 ?_
        refine th_lcm (mu := th_m J2) (n := 0) (b := b1) (tgt := 413) C dc_L_law_403 dc_L_law_404 dc_L_law_406 dc_L_law_407 dc_L_law_408 (by decide) rfl (show 0 < 1 from by omega) rfl (fun _ => rfl) (th_ixN th_l_0 (by decide) (show 0 < 1 from by omega)) ((f17 0 0).trans (th_eqi (by omega))) ?_
        refine th_goto (tgt := 856) C dc_L_law_413 (by decide) ?_
        refine th_sub C (lv' := [(0, .inr (some (90, 0))), (1, .inr (some (0, 0))), (2, .inr (some (20, 0))), (3, .inr (some (17, 0))), (4, .inl (0 : Int32))]) th_m57 ?_
        exact tail J2 _ _ (by decide) (by decide)
      · exact absurd d1 d2
      · exact absurd d2 d1
      · refine th_aload_n C dc_L_law_385 rfl rfl ?_
        refine tq_callVp C (p_O_thrown l hl J2) ok_L_64 cl_20 (show 0 < 1 from by omega) rfl (Nat.le_of_ble_eq_true rfl) dc_L_law_386 rfl (fun x3 p3 => ?_)
        refine th_iload C dc_L_law_389 rfl ?_
        refine tq_icmp_eq (tgt := 396) C dc_L_law_391 (by decide) rfl rfl (fun c3 => ?_) (fun c3 => absurd (by omega) c3)
        refine th_iload C dc_L_law_396 rfl ?_
        refine tq_if_ne (tgt := 413) C dc_L_law_398 (by decide) rfl (fun c4 => ?_) (fun c4 => absurd (by omega) c4)
        refine th_goto (tgt := 856) C dc_L_law_413 (by decide) ?_
        refine th_sub C (lv' := [(0, .inr (some (90, 0))), (1, .inr (some (0, 0))), (2, .inr (some (20, 0))), (3, .inr (some (17, 0))), (4, .inl (0 : Int32))]) th_m57 ?_
        exact tail J2 _ _ (by decide) (by decide)
    · refine th_tableIn (tgt := 416) C dc_L_law_39 (by omega) (by omega) (by rw [w]; rfl) (by decide) ?_
      refine th_aload_n C dc_L_law_416 rfl rfl ?_
      refine th_aload_n C dc_L_law_417 rfl rfl ?_
      refine th_iload C dc_L_law_418 rfl ?_
      refine th_iconst (v := 1) C dc_L_law_420 th_c_1 ?_
      refine tq_iadd C dc_L_law_421 th_l_0 th_l_1 (fun y1 f1 b1 => ?_)
      refine th_xld (n := 1) C hX dc_L_law_422 rfl (by omega) (by omega) ?_
      refine th_aload_n C dc_L_law_423 rfl rfl ?_
      refine th_callW C (q_slice l hl (xs 1)) okW_81 rfl (Nat.le_of_ble_eq_true rfl) dc_L_law_424 rfl (fun k1 J pk => ?_)
      obtain ⟨pk, fk⟩ := pk
      refine th_istore (lv' := [(0, .inr (some (90, 0))), (1, .inr (some (0, 0))), (2, .inr (some (20, 0))), (3, .inr (some (17, 0))), (4, .inl (0 : Int32)), (5, .inl k1)]) C dc_L_law_427 (by decide) rfl ?_
      refine th_aload_n C dc_L_law_429 rfl rfl ?_
      refine th_aload_n C dc_L_law_430 rfl rfl ?_
      refine th_iload C dc_L_law_431 rfl ?_
      refine th_iconst (v := 1) C dc_L_law_433 th_c_1 ?_
      refine tq_iadd C dc_L_law_434 th_l_0 th_l_1 (fun y1 f1 b1 => ?_)
      refine th_xld (n := 1) C hX dc_L_law_435 rfl (by omega) (by omega) ?_
      refine tq_callVi C (p_O_slice l hl (A := J) J (xs 1) ⟨fk, fun _ _ => rfl⟩) ok_L_83 cl_20 (show 0 < 1 from by omega) rfl (Nat.le_of_ble_eq_true rfl) dc_L_law_436 rfl (fun b1 J2 pm => ?_)
      obtain ⟨pm, f17⟩ := pm
      refine th_istore (lv' := [(0, .inr (some (90, 0))), (1, .inr (some (0, 0))), (2, .inr (some (20, 0))), (3, .inr (some (17, 0))), (4, .inl (0 : Int32)), (5, .inl k1), (6, .inl b1)]) C dc_L_law_439 (by decide) rfl ?_
      rcases pk with ⟨k0, d1, a1⟩ | ⟨k0, d1⟩ <;> rcases pm with ⟨d2, a2, t2⟩ | ⟨d2, t2⟩
      · refine th_aload_n C dc_L_law_441 rfl rfl ?_
        refine tq_callVp C (p_O_thrown l hl J2) ok_L_64 cl_20 (show 0 < 1 from by omega) rfl (Nat.le_of_ble_eq_true rfl) dc_L_law_442 rfl (fun x3 p3 => ?_)
        refine th_iload C dc_L_law_445 rfl ?_
        refine tq_icmp_eq (tgt := 452) C dc_L_law_447 (by decide) rfl rfl (fun c3 => ?_) (fun c3 => absurd (by omega) c3)
        refine th_iload C dc_L_law_452 rfl ?_
        refine tq_if_ne (tgt := 469) C dc_L_law_454 (by decide) rfl (fun c4 => absurd k0 c4) (fun c4 => ?_)
        refine th_aload_n C dc_L_law_457 rfl rfl ?_
        refine th_iconst (v := 0) C dc_L_law_458 th_c_0 ?_
        refine th_lcm (mu := th_m J2) (n := 0) (b := b1) (tgt := 469) C dc_L_law_459 dc_L_law_460 dc_L_law_462 dc_L_law_463 dc_L_law_464 (by decide) rfl (show 0 < 1 from by omega) rfl (fun _ => rfl) (th_ixN th_l_0 (by decide) (show 0 < 1 from by omega)) ((f17 0 0).trans (th_eqi (by omega))) ?_
        refine th_goto (tgt := 856) C dc_L_law_469 (by decide) ?_
        refine th_sub C (lv' := [(0, .inr (some (90, 0))), (1, .inr (some (0, 0))), (2, .inr (some (20, 0))), (3, .inr (some (17, 0))), (4, .inl (0 : Int32))]) th_m57 ?_
        exact tail J2 _ _ (by decide) (by decide)
      · exact absurd d1 d2
      · exact absurd d2 d1
      · refine th_aload_n C dc_L_law_441 rfl rfl ?_
        refine tq_callVp C (p_O_thrown l hl J2) ok_L_64 cl_20 (show 0 < 1 from by omega) rfl (Nat.le_of_ble_eq_true rfl) dc_L_law_442 rfl (fun x3 p3 => ?_)
        refine th_iload C dc_L_law_445 rfl ?_
        refine tq_icmp_eq (tgt := 452) C dc_L_law_447 (by decide) rfl rfl (fun c3 => ?_) (fun c3 => absurd (by omega) c3)
        refine th_iload C dc_L_law_452 rfl ?_
        refine tq_if_ne (tgt := 469) C dc_L_law_454 (by decide) rfl (fun c4 => ?_) (fun c4 => absurd (by omega) c4)
        refine th_goto (tgt := 856) C dc_L_law_469 (by decide) ?_
        refine th_sub C (lv' := [(0, .inr (some (90, 0))), (1, .inr (some (0, 0))), (2, .inr (some (20, 0))), (3, .inr (some (17, 0))), (4, .inl (0 : Int32))]) th_m57 ?_
        exact tail J2 _ _ (by decide) (by decide)
    · refine th_tableIn (tgt := 472) C dc_L_law_39 (by omega) (by omega) (by rw [w]; rfl) (by decide) ?_
      refine th_aload_n C dc_L_law_472 rfl rfl ?_
      refine th_aload_n C dc_L_law_473 rfl rfl ?_
      refine th_iload C dc_L_law_474 rfl ?_
      refine th_iconst (v := 1) C dc_L_law_476 th_c_1 ?_
      refine tq_iadd C dc_L_law_477 th_l_0 th_l_1 (fun y1 f1 b1 => ?_)
      refine th_xld (n := 1) C hX dc_L_law_478 rfl (by omega) (by omega) ?_
      refine th_aload_n C dc_L_law_479 rfl rfl ?_
      refine th_iload C dc_L_law_480 rfl ?_
      refine th_iconst (v := 2) C dc_L_law_482 th_c_2 ?_
      refine tq_iadd C dc_L_law_483 th_l_0 th_l_2 (fun y2 f2 b2 => ?_)
      refine th_xld (n := 2) C hX dc_L_law_484 rfl (by omega) (by omega) ?_
      refine th_aload_n C dc_L_law_485 rfl rfl ?_
      refine th_callW C (q_global l hl (xs 1) (xs 2)) okW_84 rfl (Nat.le_of_ble_eq_true rfl) dc_L_law_486 rfl (fun k1 J pk => ?_)
      obtain ⟨pk, fk⟩ := pk
      refine th_istore (lv' := [(0, .inr (some (90, 0))), (1, .inr (some (0, 0))), (2, .inr (some (20, 0))), (3, .inr (some (17, 0))), (4, .inl (0 : Int32)), (5, .inl k1)]) C dc_L_law_489 (by decide) rfl ?_
      refine th_aload_n C dc_L_law_491 rfl rfl ?_
      refine th_aload_n C dc_L_law_492 rfl rfl ?_
      refine th_iload C dc_L_law_493 rfl ?_
      refine th_iconst (v := 1) C dc_L_law_495 th_c_1 ?_
      refine tq_iadd C dc_L_law_496 th_l_0 th_l_1 (fun y1 f1 b1 => ?_)
      refine th_xld (n := 1) C hX dc_L_law_497 rfl (by omega) (by omega) ?_
      refine th_aload_n C dc_L_law_498 rfl rfl ?_
      refine th_iload C dc_L_law_499 rfl ?_
      refine th_iconst (v := 2) C dc_L_law_501 th_c_2 ?_
      refine tq_iadd C dc_L_law_502 th_l_0 th_l_2 (fun y2 f2 b2 => ?_)
      refine th_xld (n := 2) C hX dc_L_law_503 rfl (by omega) (by omega) ?_
      refine tq_callVi C (p_O_global l hl (A := J) J (xs 1) (xs 2) ⟨fk, fun _ _ => rfl⟩) ok_L_87 cl_20 (show 0 < 1 from by omega) rfl (Nat.le_of_ble_eq_true rfl) dc_L_law_504 rfl (fun b1 J2 pm => ?_)
      obtain ⟨pm, f17⟩ := pm
      refine th_istore (lv' := [(0, .inr (some (90, 0))), (1, .inr (some (0, 0))), (2, .inr (some (20, 0))), (3, .inr (some (17, 0))), (4, .inl (0 : Int32)), (5, .inl k1), (6, .inl b1)]) C dc_L_law_507 (by decide) rfl ?_
      rcases pk with ⟨k0, d1, a1⟩ | ⟨k0, d1⟩ <;> rcases pm with ⟨d2, a2, t2⟩ | ⟨d2, t2⟩
      · refine th_aload_n C dc_L_law_509 rfl rfl ?_
        refine tq_callVp C (p_O_thrown l hl J2) ok_L_64 cl_20 (show 0 < 1 from by omega) rfl (Nat.le_of_ble_eq_true rfl) dc_L_law_510 rfl (fun x3 p3 => ?_)
        refine th_iload C dc_L_law_513 rfl ?_
        refine tq_icmp_eq (tgt := 520) C dc_L_law_515 (by decide) rfl rfl (fun c3 => ?_) (fun c3 => absurd (by omega) c3)
        refine th_iload C dc_L_law_520 rfl ?_
        refine tq_if_ne (tgt := 537) C dc_L_law_522 (by decide) rfl (fun c4 => absurd k0 c4) (fun c4 => ?_)
        refine th_aload_n C dc_L_law_525 rfl rfl ?_
        refine th_iconst (v := 0) C dc_L_law_526 th_c_0 ?_
        refine th_lcm (mu := th_m J2) (n := 0) (b := b1) (tgt := 537) C dc_L_law_527 dc_L_law_528 dc_L_law_530 dc_L_law_531 dc_L_law_532 (by decide) rfl (show 0 < 1 from by omega) rfl (fun _ => rfl) (th_ixN th_l_0 (by decide) (show 0 < 1 from by omega)) ((f17 0 0).trans (th_eqi (by omega))) ?_
        refine th_goto (tgt := 856) C dc_L_law_537 (by decide) ?_
        refine th_sub C (lv' := [(0, .inr (some (90, 0))), (1, .inr (some (0, 0))), (2, .inr (some (20, 0))), (3, .inr (some (17, 0))), (4, .inl (0 : Int32))]) th_m57 ?_
        exact tail J2 _ _ (by decide) (by decide)
      · exact absurd d1 d2
      · exact absurd d2 d1
      · refine th_aload_n C dc_L_law_509 rfl rfl ?_
        refine tq_callVp C (p_O_thrown l hl J2) ok_L_64 cl_20 (show 0 < 1 from by omega) rfl (Nat.le_of_ble_eq_true rfl) dc_L_law_510 rfl (fun x3 p3 => ?_)
        refine th_iload C dc_L_law_513 rfl ?_
        refine tq_icmp_eq (tgt := 520) C dc_L_law_515 (by decide) rfl rfl (fun c3 => ?_) (fun c3 => absurd (by omega) c3)
        refine th_iload C dc_L_law_520 rfl ?_
        refine tq_if_ne (tgt := 537) C dc_L_law_522 (by decide) rfl (fun c4 => ?_) (fun c4 => absurd (by omega) c4)
        refine th_goto (tgt := 856) C dc_L_law_537 (by decide) ?_
        refine th_sub C (lv' := [(0, .inr (some (90, 0))), (1, .inr (some (0, 0))), (2, .inr (some (20, 0))), (3, .inr (some (17, 0))), (4, .inl (0 : Int32))]) th_m57 ?_
        exact tail J2 _ _ (by decide) (by decide)
    · refine th_tableIn (tgt := 540) C dc_L_law_39 (by omega) (by omega) (by rw [w]; rfl) (by decide) ?_
      refine th_aload_n C dc_L_law_540 rfl rfl ?_
      refine th_aload_n C dc_L_law_541 rfl rfl ?_
      refine th_iload C dc_L_law_542 rfl ?_
      refine th_iconst (v := 1) C dc_L_law_544 th_c_1 ?_
      refine tq_iadd C dc_L_law_545 th_l_0 th_l_1 (fun y1 f1 b1 => ?_)
      refine th_xld (n := 1) C hX dc_L_law_546 rfl (by omega) (by omega) ?_
      refine th_aload_n C dc_L_law_547 rfl rfl ?_
      refine th_iload C dc_L_law_548 rfl ?_
      refine th_iconst (v := 2) C dc_L_law_550 th_c_2 ?_
      refine tq_iadd C dc_L_law_551 th_l_0 th_l_2 (fun y2 f2 b2 => ?_)
      refine th_xld (n := 2) C hX dc_L_law_552 rfl (by omega) (by omega) ?_
      refine th_aload_n C dc_L_law_553 rfl rfl ?_
      refine th_callW C (q_special l hl (xs 1) (xs 2)) okW_88 rfl (Nat.le_of_ble_eq_true rfl) dc_L_law_554 rfl (fun k1 J pk => ?_)
      obtain ⟨pk, fk⟩ := pk
      refine th_istore (lv' := [(0, .inr (some (90, 0))), (1, .inr (some (0, 0))), (2, .inr (some (20, 0))), (3, .inr (some (17, 0))), (4, .inl (0 : Int32)), (5, .inl k1)]) C dc_L_law_557 (by decide) rfl ?_
      refine th_aload_n C dc_L_law_559 rfl rfl ?_
      refine th_aload_n C dc_L_law_560 rfl rfl ?_
      refine th_iload C dc_L_law_561 rfl ?_
      refine th_iconst (v := 1) C dc_L_law_563 th_c_1 ?_
      refine tq_iadd C dc_L_law_564 th_l_0 th_l_1 (fun y1 f1 b1 => ?_)
      refine th_xld (n := 1) C hX dc_L_law_565 rfl (by omega) (by omega) ?_
      refine th_aload_n C dc_L_law_566 rfl rfl ?_
      refine th_iload C dc_L_law_567 rfl ?_
      refine th_iconst (v := 2) C dc_L_law_569 th_c_2 ?_
      refine tq_iadd C dc_L_law_570 th_l_0 th_l_2 (fun y2 f2 b2 => ?_)
      refine th_xld (n := 2) C hX dc_L_law_571 rfl (by omega) (by omega) ?_
      refine tq_callVi C (p_O_special l hl (A := J) J (xs 1) (xs 2) ⟨fk, fun _ _ => rfl⟩) ok_L_90 cl_20 (show 0 < 1 from by omega) rfl (Nat.le_of_ble_eq_true rfl) dc_L_law_572 rfl (fun b1 J2 pm => ?_)
      obtain ⟨pm, f17⟩ := pm
      refine th_istore (lv' := [(0, .inr (some (90, 0))), (1, .inr (some (0, 0))), (2, .inr (some (20, 0))), (3, .inr (some (17, 0))), (4, .inl (0 : Int32)), (5, .inl k1), (6, .inl b1)]) C dc_L_law_575 (by decide) rfl ?_
      rcases pk with ⟨k0, d1, a1⟩ | ⟨k0, d1⟩ <;> rcases pm with ⟨d2, a2, t2⟩ | ⟨d2, t2⟩
      · refine th_aload_n C dc_L_law_577 rfl rfl ?_
        refine tq_callVp C (p_O_thrown l hl J2) ok_L_64 cl_20 (show 0 < 1 from by omega) rfl (Nat.le_of_ble_eq_true rfl) dc_L_law_578 rfl (fun x3 p3 => ?_)
        refine th_iload C dc_L_law_581 rfl ?_
        refine tq_icmp_eq (tgt := 588) C dc_L_law_583 (by decide) rfl rfl (fun c3 => ?_) (fun c3 => absurd (by omega) c3)
        refine th_iload C dc_L_law_588 rfl ?_
        refine tq_if_ne (tgt := 605) C dc_L_law_590 (by decide) rfl (fun c4 => absurd k0 c4) (fun c4 => ?_)
        refine th_aload_n C dc_L_law_593 rfl rfl ?_
        refine th_iconst (v := 0) C dc_L_law_594 th_c_0 ?_
        refine th_lcm (mu := th_m J2) (n := 0) (b := b1) (tgt := 605) C dc_L_law_595 dc_L_law_596 dc_L_law_598 dc_L_law_599 dc_L_law_600 (by decide) rfl (show 0 < 1 from by omega) rfl (fun _ => rfl) (th_ixN th_l_0 (by decide) (show 0 < 1 from by omega)) ((f17 0 0).trans (th_eqi (by omega))) ?_
        refine th_goto (tgt := 856) C dc_L_law_605 (by decide) ?_
        refine th_sub C (lv' := [(0, .inr (some (90, 0))), (1, .inr (some (0, 0))), (2, .inr (some (20, 0))), (3, .inr (some (17, 0))), (4, .inl (0 : Int32))]) th_m57 ?_
        exact tail J2 _ _ (by decide) (by decide)
      · exact absurd d1 d2
      · exact absurd d2 d1
      · refine th_aload_n C dc_L_law_577 rfl rfl ?_
        refine tq_callVp C (p_O_thrown l hl J2) ok_L_64 cl_20 (show 0 < 1 from by omega) rfl (Nat.le_of_ble_eq_true rfl) dc_L_law_578 rfl (fun x3 p3 => ?_)
        refine th_iload C dc_L_law_581 rfl ?_
        refine tq_icmp_eq (tgt := 588) C dc_L_law_583 (by decide) rfl rfl (fun c3 => ?_) (fun c3 => absurd (by omega) c3)
        refine th_iload C dc_L_law_588 rfl ?_
        refine tq_if_ne (tgt := 605) C dc_L_law_590 (by decide) rfl (fun c4 => ?_) (fun c4 => absurd (by omega) c4)
        refine th_goto (tgt := 856) C dc_L_law_605 (by decide) ?_
        refine th_sub C (lv' := [(0, .inr (some (90, 0))), (1, .inr (some (0, 0))), (2, .inr (some (20, 0))), (3, .inr (some (17, 0))), (4, .inl (0 : Int32))]) th_m57 ?_
        exact tail J2 _ _ (by decide) (by decide)
    · refine th_tableIn (tgt := 608) C dc_L_law_39 (by omega) (by omega) (by rw [w]; rfl) (by decide) ?_
      refine th_aload_n C dc_L_law_608 rfl rfl ?_
      refine th_aload_n C dc_L_law_609 rfl rfl ?_
      refine th_iload C dc_L_law_610 rfl ?_
      refine th_iconst (v := 1) C dc_L_law_612 th_c_1 ?_
      refine tq_iadd C dc_L_law_613 th_l_0 th_l_1 (fun y1 f1 b1 => ?_)
      refine th_xld (n := 1) C hX dc_L_law_614 rfl (by omega) (by omega) ?_
      refine th_aload_n C dc_L_law_615 rfl rfl ?_
      refine th_iload C dc_L_law_616 rfl ?_
      refine th_iconst (v := 2) C dc_L_law_618 th_c_2 ?_
      refine tq_iadd C dc_L_law_619 th_l_0 th_l_2 (fun y2 f2 b2 => ?_)
      refine th_xld (n := 2) C hX dc_L_law_620 rfl (by omega) (by omega) ?_
      refine th_aload_n C dc_L_law_621 rfl rfl ?_
      refine th_callW C (q_look l hl (xs 1) (xs 2)) okW_91 rfl (Nat.le_of_ble_eq_true rfl) dc_L_law_622 rfl (fun k1 J pk => ?_)
      obtain ⟨pk, fk⟩ := pk
      refine th_istore (lv' := [(0, .inr (some (90, 0))), (1, .inr (some (0, 0))), (2, .inr (some (20, 0))), (3, .inr (some (17, 0))), (4, .inl (0 : Int32)), (5, .inl k1)]) C dc_L_law_625 (by decide) rfl ?_
      refine th_aload_n C dc_L_law_627 rfl rfl ?_
      refine th_aload_n C dc_L_law_628 rfl rfl ?_
      refine th_iload C dc_L_law_629 rfl ?_
      refine th_iconst (v := 1) C dc_L_law_631 th_c_1 ?_
      refine tq_iadd C dc_L_law_632 th_l_0 th_l_1 (fun y1 f1 b1 => ?_)
      refine th_xld (n := 1) C hX dc_L_law_633 rfl (by omega) (by omega) ?_
      refine th_aload_n C dc_L_law_634 rfl rfl ?_
      refine th_iload C dc_L_law_635 rfl ?_
      refine th_iconst (v := 2) C dc_L_law_637 th_c_2 ?_
      refine tq_iadd C dc_L_law_638 th_l_0 th_l_2 (fun y2 f2 b2 => ?_)
      refine th_xld (n := 2) C hX dc_L_law_639 rfl (by omega) (by omega) ?_
      refine tq_callVi C (p_O_look l hl (A := J) J (xs 1) (xs 2) ⟨fk, fun _ _ => rfl⟩) ok_L_93 cl_20 (show 0 < 1 from by omega) rfl (Nat.le_of_ble_eq_true rfl) dc_L_law_640 rfl (fun b1 J2 pm => ?_)
      obtain ⟨pm, f17⟩ := pm
      refine th_istore (lv' := [(0, .inr (some (90, 0))), (1, .inr (some (0, 0))), (2, .inr (some (20, 0))), (3, .inr (some (17, 0))), (4, .inl (0 : Int32)), (5, .inl k1), (6, .inl b1)]) C dc_L_law_643 (by decide) rfl ?_
      rcases pk with ⟨k0, d1, a1⟩ | ⟨k0, d1⟩ <;> rcases pm with ⟨d2, a2, t2⟩ | ⟨d2, t2⟩
      · refine th_aload_n C dc_L_law_645 rfl rfl ?_
        refine tq_callVp C (p_O_thrown l hl J2) ok_L_64 cl_20 (show 0 < 1 from by omega) rfl (Nat.le_of_ble_eq_true rfl) dc_L_law_646 rfl (fun x3 p3 => ?_)
        refine th_iload C dc_L_law_649 rfl ?_
        refine tq_icmp_eq (tgt := 656) C dc_L_law_651 (by decide) rfl rfl (fun c3 => ?_) (fun c3 => absurd (by omega) c3)
        refine th_iload C dc_L_law_656 rfl ?_
        refine tq_if_ne (tgt := 673) C dc_L_law_658 (by decide) rfl (fun c4 => absurd k0 c4) (fun c4 => ?_)
        refine th_aload_n C dc_L_law_661 rfl rfl ?_
        refine th_iconst (v := 0) C dc_L_law_662 th_c_0 ?_
        refine th_lcm (mu := th_m J2) (n := 0) (b := b1) (tgt := 673) C dc_L_law_663 dc_L_law_664 dc_L_law_666 dc_L_law_667 dc_L_law_668 (by decide) rfl (show 0 < 1 from by omega) rfl (fun _ => rfl) (th_ixN th_l_0 (by decide) (show 0 < 1 from by omega)) ((f17 0 0).trans (th_eqi (by omega))) ?_
        refine th_goto (tgt := 856) C dc_L_law_673 (by decide) ?_
        refine th_sub C (lv' := [(0, .inr (some (90, 0))), (1, .inr (some (0, 0))), (2, .inr (some (20, 0))), (3, .inr (some (17, 0))), (4, .inl (0 : Int32))]) th_m57 ?_
        exact tail J2 _ _ (by decide) (by decide)
      · exact absurd d1 d2
      · exact absurd d2 d1
      · refine th_aload_n C dc_L_law_645 rfl rfl ?_
        refine tq_callVp C (p_O_thrown l hl J2) ok_L_64 cl_20 (show 0 < 1 from by omega) rfl (Nat.le_of_ble_eq_true rfl) dc_L_law_646 rfl (fun x3 p3 => ?_)
        refine th_iload C dc_L_law_649 rfl ?_
        refine tq_icmp_eq (tgt := 656) C dc_L_law_651 (by decide) rfl rfl (fun c3 => ?_) (fun c3 => absurd (by omega) c3)
        refine th_iload C dc_L_law_656 rfl ?_
        refine tq_if_ne (tgt := 673) C dc_L_law_658 (by decide) rfl (fun c4 => ?_) (fun c4 => absurd (by omega) c4)
        refine th_goto (tgt := 856) C dc_L_law_673 (by decide) ?_
        refine th_sub C (lv' := [(0, .inr (some (90, 0))), (1, .inr (some (0, 0))), (2, .inr (some (20, 0))), (3, .inr (some (17, 0))), (4, .inl (0 : Int32))]) th_m57 ?_
        exact tail J2 _ _ (by decide) (by decide)
    · refine th_tableIn (tgt := 676) C dc_L_law_39 (by omega) (by omega) (by rw [w]; rfl) (by decide) ?_
      refine th_aload_n C dc_L_law_676 rfl rfl ?_
      refine th_aload_n C dc_L_law_677 rfl rfl ?_
      refine th_iload C dc_L_law_678 rfl ?_
      refine th_iconst (v := 1) C dc_L_law_680 th_c_1 ?_
      refine tq_iadd C dc_L_law_681 th_l_0 th_l_1 (fun y1 f1 b1 => ?_)
      refine th_xld (n := 1) C hX dc_L_law_682 rfl (by omega) (by omega) ?_
      refine th_aload_n C dc_L_law_683 rfl rfl ?_
      refine th_iload C dc_L_law_684 rfl ?_
      refine th_iconst (v := 2) C dc_L_law_686 th_c_2 ?_
      refine tq_iadd C dc_L_law_687 th_l_0 th_l_2 (fun y2 f2 b2 => ?_)
      refine th_xld (n := 2) C hX dc_L_law_688 rfl (by omega) (by omega) ?_
      refine th_aload_n C dc_L_law_689 rfl rfl ?_
      refine th_callW C (q_lock l hl (xs 1) (xs 2)) okW_94 rfl (Nat.le_of_ble_eq_true rfl) dc_L_law_690 rfl (fun k1 J pk => ?_)
      obtain ⟨pk, fk⟩ := pk
      refine th_istore (lv' := [(0, .inr (some (90, 0))), (1, .inr (some (0, 0))), (2, .inr (some (20, 0))), (3, .inr (some (17, 0))), (4, .inl (0 : Int32)), (5, .inl k1)]) C dc_L_law_693 (by decide) rfl ?_
      refine th_aload_n C dc_L_law_695 rfl rfl ?_
      refine th_aload_n C dc_L_law_696 rfl rfl ?_
      refine th_iload C dc_L_law_697 rfl ?_
      refine th_iconst (v := 1) C dc_L_law_699 th_c_1 ?_
      refine tq_iadd C dc_L_law_700 th_l_0 th_l_1 (fun y1 f1 b1 => ?_)
      refine th_xld (n := 1) C hX dc_L_law_701 rfl (by omega) (by omega) ?_
      refine th_aload_n C dc_L_law_702 rfl rfl ?_
      refine th_iload C dc_L_law_703 rfl ?_
      refine th_iconst (v := 2) C dc_L_law_705 th_c_2 ?_
      refine tq_iadd C dc_L_law_706 th_l_0 th_l_2 (fun y2 f2 b2 => ?_)
      refine th_xld (n := 2) C hX dc_L_law_707 rfl (by omega) (by omega) ?_
      refine tq_callVi C (p_O_lock l hl (A := J) J (xs 1) (xs 2) ⟨fk, fun _ _ => rfl⟩) ok_L_96 cl_20 (show 0 < 1 from by omega) rfl (Nat.le_of_ble_eq_true rfl) dc_L_law_708 rfl (fun b1 J2 pm => ?_)
      obtain ⟨pm, f17⟩ := pm
      refine th_istore (lv' := [(0, .inr (some (90, 0))), (1, .inr (some (0, 0))), (2, .inr (some (20, 0))), (3, .inr (some (17, 0))), (4, .inl (0 : Int32)), (5, .inl k1), (6, .inl b1)]) C dc_L_law_711 (by decide) rfl ?_
      rcases pk with ⟨k0, d1, a1⟩ | ⟨k0, d1⟩ <;> rcases pm with ⟨d2, a2, t2⟩ | ⟨d2, t2⟩
      · refine th_aload_n C dc_L_law_713 rfl rfl ?_
        refine tq_callVp C (p_O_thrown l hl J2) ok_L_64 cl_20 (show 0 < 1 from by omega) rfl (Nat.le_of_ble_eq_true rfl) dc_L_law_714 rfl (fun x3 p3 => ?_)
        refine th_iload C dc_L_law_717 rfl ?_
        refine tq_icmp_eq (tgt := 724) C dc_L_law_719 (by decide) rfl rfl (fun c3 => ?_) (fun c3 => absurd (by omega) c3)
        refine th_iload C dc_L_law_724 rfl ?_
        refine tq_if_ne (tgt := 741) C dc_L_law_726 (by decide) rfl (fun c4 => absurd k0 c4) (fun c4 => ?_)
        refine th_aload_n C dc_L_law_729 rfl rfl ?_
        refine th_iconst (v := 0) C dc_L_law_730 th_c_0 ?_
        refine th_lcm (mu := th_m J2) (n := 0) (b := b1) (tgt := 741) C dc_L_law_731 dc_L_law_732 dc_L_law_734 dc_L_law_735 dc_L_law_736 (by decide) rfl (show 0 < 1 from by omega) rfl (fun _ => rfl) (th_ixN th_l_0 (by decide) (show 0 < 1 from by omega)) ((f17 0 0).trans (th_eqi (by omega))) ?_
        refine th_goto (tgt := 856) C dc_L_law_741 (by decide) ?_
        refine th_sub C (lv' := [(0, .inr (some (90, 0))), (1, .inr (some (0, 0))), (2, .inr (some (20, 0))), (3, .inr (some (17, 0))), (4, .inl (0 : Int32))]) th_m57 ?_
        exact tail J2 _ _ (by decide) (by decide)
      · exact absurd d1 d2
      · exact absurd d2 d1
      · refine th_aload_n C dc_L_law_713 rfl rfl ?_
        refine tq_callVp C (p_O_thrown l hl J2) ok_L_64 cl_20 (show 0 < 1 from by omega) rfl (Nat.le_of_ble_eq_true rfl) dc_L_law_714 rfl (fun x3 p3 => ?_)
        refine th_iload C dc_L_law_717 rfl ?_
        refine tq_icmp_eq (tgt := 724) C dc_L_law_719 (by decide) rfl rfl (fun c3 => ?_) (fun c3 => absurd (by omega) c3)
        refine th_iload C dc_L_law_724 rfl ?_
        refine tq_if_ne (tgt := 741) C dc_L_law_726 (by decide) rfl (fun c4 => ?_) (fun c4 => absurd (by omega) c4)
        refine th_goto (tgt := 856) C dc_L_law_741 (by decide) ?_
        refine th_sub C (lv' := [(0, .inr (some (90, 0))), (1, .inr (some (0, 0))), (2, .inr (some (20, 0))), (3, .inr (some (17, 0))), (4, .inl (0 : Int32))]) th_m57 ?_
        exact tail J2 _ _ (by decide) (by decide)
    · refine th_tableIn (tgt := 744) C dc_L_law_39 (by omega) (by omega) (by rw [w]; rfl) (by decide) ?_
      refine th_aload_n C dc_L_law_744 rfl rfl ?_
      refine th_aload_n C dc_L_law_745 rfl rfl ?_
      refine th_iload C dc_L_law_746 rfl ?_
      refine th_iconst (v := 1) C dc_L_law_748 th_c_1 ?_
      refine tq_iadd C dc_L_law_749 th_l_0 th_l_1 (fun y1 f1 b1 => ?_)
      refine th_xld (n := 1) C hX dc_L_law_750 rfl (by omega) (by omega) ?_
      refine th_aload_n C dc_L_law_751 rfl rfl ?_
      refine th_callW C (q_said l hl (xs 1)) okW_97 rfl (Nat.le_of_ble_eq_true rfl) dc_L_law_752 rfl (fun k1 J pk => ?_)
      obtain ⟨pk, fk⟩ := pk
      refine th_istore (lv' := [(0, .inr (some (90, 0))), (1, .inr (some (0, 0))), (2, .inr (some (20, 0))), (3, .inr (some (17, 0))), (4, .inl (0 : Int32)), (5, .inl k1)]) C dc_L_law_755 (by decide) rfl ?_
      refine th_aload_n C dc_L_law_757 rfl rfl ?_
      refine th_aload_n C dc_L_law_758 rfl rfl ?_
      refine th_iload C dc_L_law_759 rfl ?_
      refine th_iconst (v := 1) C dc_L_law_761 th_c_1 ?_
      refine tq_iadd C dc_L_law_762 th_l_0 th_l_1 (fun y1 f1 b1 => ?_)
      refine th_xld (n := 1) C hX dc_L_law_763 rfl (by omega) (by omega) ?_
      refine tq_callVi C (p_O_said l hl (A := J) J (xs 1) ⟨fk, fun _ _ => rfl⟩) ok_L_99 cl_20 (show 0 < 1 from by omega) rfl (Nat.le_of_ble_eq_true rfl) dc_L_law_764 rfl (fun b1 J2 pm => ?_)
      obtain ⟨pm, f17⟩ := pm
      refine th_istore (lv' := [(0, .inr (some (90, 0))), (1, .inr (some (0, 0))), (2, .inr (some (20, 0))), (3, .inr (some (17, 0))), (4, .inl (0 : Int32)), (5, .inl k1), (6, .inl b1)]) C dc_L_law_767 (by decide) rfl ?_
      rcases pk with ⟨k0, d1, a1⟩ | ⟨k0, d1⟩ <;> rcases pm with ⟨d2, a2, t2⟩ | ⟨d2, t2⟩
      · exact d1.elim
      · exact absurd d1 d2
      · exact absurd d2 d1
      · refine th_aload_n C dc_L_law_769 rfl rfl ?_
        refine tq_callVp C (p_O_thrown l hl J2) ok_L_64 cl_20 (show 0 < 1 from by omega) rfl (Nat.le_of_ble_eq_true rfl) dc_L_law_770 rfl (fun x3 p3 => ?_)
        refine th_iload C dc_L_law_773 rfl ?_
        refine tq_icmp_eq (tgt := 780) C dc_L_law_775 (by decide) rfl rfl (fun c3 => ?_) (fun c3 => absurd (by omega) c3)
        refine th_iload C dc_L_law_780 rfl ?_
        refine tq_if_ne (tgt := 797) C dc_L_law_782 (by decide) rfl (fun c4 => ?_) (fun c4 => absurd (by omega) c4)
        refine th_goto (tgt := 856) C dc_L_law_797 (by decide) ?_
        refine th_sub C (lv' := [(0, .inr (some (90, 0))), (1, .inr (some (0, 0))), (2, .inr (some (20, 0))), (3, .inr (some (17, 0))), (4, .inl (0 : Int32))]) th_m57 ?_
        exact tail J2 _ _ (by decide) (by decide)
    · refine th_tableIn (tgt := 800) C dc_L_law_39 (by omega) (by omega) (by rw [w]; rfl) (by decide) ?_
      refine th_aload_n C dc_L_law_800 rfl rfl ?_
      refine th_aload_n C dc_L_law_801 rfl rfl ?_
      refine th_iload C dc_L_law_802 rfl ?_
      refine th_iconst (v := 1) C dc_L_law_804 th_c_1 ?_
      refine tq_iadd C dc_L_law_805 th_l_0 th_l_1 (fun y1 f1 b1 => ?_)
      refine th_xld (n := 1) C hX dc_L_law_806 rfl (by omega) (by omega) ?_
      refine th_aload_n C dc_L_law_807 rfl rfl ?_
      refine th_callW C (q_count l hl (xs 1)) okW_100 rfl (Nat.le_of_ble_eq_true rfl) dc_L_law_808 rfl (fun k1 J pk => ?_)
      obtain ⟨pk, fk⟩ := pk
      refine th_istore (lv' := [(0, .inr (some (90, 0))), (1, .inr (some (0, 0))), (2, .inr (some (20, 0))), (3, .inr (some (17, 0))), (4, .inl (0 : Int32)), (5, .inl k1)]) C dc_L_law_811 (by decide) rfl ?_
      refine th_aload_n C dc_L_law_813 rfl rfl ?_
      refine th_aload_n C dc_L_law_814 rfl rfl ?_
      refine th_iload C dc_L_law_815 rfl ?_
      refine th_iconst (v := 1) C dc_L_law_817 th_c_1 ?_
      refine tq_iadd C dc_L_law_818 th_l_0 th_l_1 (fun y1 f1 b1 => ?_)
      refine th_xld (n := 1) C hX dc_L_law_819 rfl (by omega) (by omega) ?_
      refine tq_callVi C (p_O_count l hl (A := J) J (xs 1) ⟨fk, fun _ _ => rfl⟩) ok_L_102 cl_20 (show 0 < 1 from by omega) rfl (Nat.le_of_ble_eq_true rfl) dc_L_law_820 rfl (fun b1 J2 pm => ?_)
      obtain ⟨pm, f17⟩ := pm
      refine th_istore (lv' := [(0, .inr (some (90, 0))), (1, .inr (some (0, 0))), (2, .inr (some (20, 0))), (3, .inr (some (17, 0))), (4, .inl (0 : Int32)), (5, .inl k1), (6, .inl b1)]) C dc_L_law_823 (by decide) rfl ?_
      rcases pk with ⟨k0, d1, a1⟩ | ⟨k0, d1⟩ <;> rcases pm with ⟨d2, a2, t2⟩ | ⟨d2, t2⟩
      · refine th_aload_n C dc_L_law_825 rfl rfl ?_
        refine tq_callVp C (p_O_thrown l hl J2) ok_L_64 cl_20 (show 0 < 1 from by omega) rfl (Nat.le_of_ble_eq_true rfl) dc_L_law_826 rfl (fun x3 p3 => ?_)
        refine th_iload C dc_L_law_829 rfl ?_
        refine tq_icmp_eq (tgt := 836) C dc_L_law_831 (by decide) rfl rfl (fun c3 => ?_) (fun c3 => absurd (by omega) c3)
        refine th_iload C dc_L_law_836 rfl ?_
        refine tq_if_ne (tgt := 853) C dc_L_law_838 (by decide) rfl (fun c4 => absurd k0 c4) (fun c4 => ?_)
        refine th_aload_n C dc_L_law_841 rfl rfl ?_
        refine th_iconst (v := 0) C dc_L_law_842 th_c_0 ?_
        refine th_lcm (mu := th_m J2) (n := 0) (b := b1) (tgt := 853) C dc_L_law_843 dc_L_law_844 dc_L_law_846 dc_L_law_847 dc_L_law_848 (by decide) rfl (show 0 < 1 from by omega) rfl (fun _ => rfl) (th_ixN th_l_0 (by decide) (show 0 < 1 from by omega)) ((f17 0 0).trans (th_eqi (by omega))) ?_
        refine th_goto (tgt := 856) C dc_L_law_853 (by decide) ?_
        refine th_sub C (lv' := [(0, .inr (some (90, 0))), (1, .inr (some (0, 0))), (2, .inr (some (20, 0))), (3, .inr (some (17, 0))), (4, .inl (0 : Int32))]) th_m57 ?_
        exact tail J2 _ _ (by decide) (by decide)
      · exact absurd d1 d2
      · exact absurd d2 d1
      · refine th_aload_n C dc_L_law_825 rfl rfl ?_
        refine tq_callVp C (p_O_thrown l hl J2) ok_L_64 cl_20 (show 0 < 1 from by omega) rfl (Nat.le_of_ble_eq_true rfl) dc_L_law_826 rfl (fun x3 p3 => ?_)
        refine th_iload C dc_L_law_829 rfl ?_
        refine tq_icmp_eq (tgt := 836) C dc_L_law_831 (by decide) rfl rfl (fun c3 => ?_) (fun c3 => absurd (by omega) c3)
        refine th_iload C dc_L_law_836 rfl ?_
        refine tq_if_ne (tgt := 853) C dc_L_law_838 (by decide) rfl (fun c4 => ?_) (fun c4 => absurd (by omega) c4)
        refine th_goto (tgt := 856) C dc_L_law_853 (by decide) ?_
        refine th_sub C (lv' := [(0, .inr (some (90, 0))), (1, .inr (some (0, 0))), (2, .inr (some (20, 0))), (3, .inr (some (17, 0))), (4, .inl (0 : Int32))]) th_m57 ?_
        exact tail J2 _ _ (by decide) (by decide)
    · refine th_tableOut (tgt := 856) C dc_L_law_39 w (by decide) ?_
      exact tail th_I0 _ _ (by decide) (by decide)

