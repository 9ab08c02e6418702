theorem th_m57 {a b c d e f g : Nat × th_V} : ∀ q ∈ [a, b, c, d, e], q ∈ [a, b, c, d, e, f, g] := fun q hq => List.mem_append_left [f, g] hq
set_option maxRecDepth 100000 in
set_option maxHeartbeats 4000000 in
theorem law_loop (l : Launch) (hl : l.stackTraces = false) {z : th_Z} {rt : Option FieldType} {tb0 : List ExceptionTableEntry} {L : Nat} {xs : Nat → Int32} (C : th_C l z cb_L_law 7 rn_L room_1 rt tb0) (hX : th_SX z L xs) (hL : L ≤ 2560)
    (hend : ∀ pc lv mu kc ks, decode cb_L_law pc = .ok (.ireturn, 1) → kc ≤ 613031 → ks ≤ 7257012 → th_G l z 7 pc lv [.inl 1] mu kc ks) : ∀ (N j : Nat) (i : Int32) (J : th_I) (sl : Int), 513 - j < N → i.toInt = 5 * (j : Int) → j ≤ 512 → th_Inv (800 * (j : Int)) sl J J → th_OI (800 * (j : Int)) sl J J → th_G l z 7 23 [(0, .inr (some (90, 0))), (1, .inr (some (0, 0))), (2, .inr (some (20, 0))), (3, .inr (some (17, 0))), (4, .inl i)] [] (th_m J) (121 + 24 * j) (1649 + 240 * j) := by
  obtain ⟨vL, hvL⟩ : ∃ q : Int32, Int32.ofNat L = q := ⟨_, rfl⟩
  have hv5 : vL.toInt = (L : Int) := by rw [← hvL]; exact th_ofL (by omega)
  intro N
  induction N with
  | zero => intro j i J sl hm; exact absurd hm (Nat.not_lt_zero _)
  | succ N ih =>
    intro j i J sl hm hi hj hA hB
    refine th_iload C dc_L_law_23 rfl ?_
    refine th_aload_n C dc_L_law_25 rfl rfl ?_
    refine th_xlen C hX dc_L_law_26 hvL ?_
    refine th_iconst (v := 5) C dc_L_law_27 th_c_5 ?_
    refine tq_isub C dc_L_law_28 rfl th_l_5 (fun x1 e1 a1 => ?_)
    refine tq_icmp_gt (tgt := 554) C dc_L_law_29 (by decide) rfl rfl (fun c1 => ?_) (fun c1 => ?_)
    · refine th_iconst (v := 1) C dc_L_law_554 th_c_1 ?_
      exact hend _ _ _ _ _ dc_L_law_555 (by omega) (by omega)
    · have hjN : j < 512 ∧ 5 * j + 5 ≤ L := by omega
      have tail : ∀ (J2 : th_I) (sl2 : Int) (kc ks : Nat), th_Inv (800 * (j : Int) + 800) sl2 J2 J2 → th_OI (800 * (j : Int) + 800) sl2 J2 J2 → kc ≤ 121 + 24 * (j + 1) → ks ≤ 1649 + 240 * (j + 1) → th_G l z 7 548 [(0, .inr (some (90, 0))), (1, .inr (some (0, 0))), (2, .inr (some (20, 0))), (3, .inr (some (17, 0))), (4, .inl i)] [] (th_m J2) kc ks := by
        intro J2 sl2 kc ks h1 h2 h3 h4
        refine th_Gw h3 h4 ?_
        refine tq_iinc (lv' := fun rr => [(0, .inr (some (90, 0))), (1, .inr (some (0, 0))), (2, .inr (some (20, 0))), (3, .inr (some (17, 0))), (4, .inl rr)]) C dc_L_law_548 rfl (by decide) th_c_5 rfl th_l_5 (fun rr => rfl) (fun x9 e9 a9 => ?_)
        refine th_goto (tgt := 23) C dc_L_law_551 (by decide) ?_
        have e8 : 800 * ((j + 1 : Nat) : Int) = 800 * (j : Int) + 800 := by omega
        exact ih (j + 1) x9 J2 sl2 (by omega) (by omega) (by omega) (by rw [e8]; exact h1) (by rw [e8]; exact h2)
      refine th_aload_n C dc_L_law_32 rfl rfl ?_
      refine th_iload C dc_L_law_33 rfl ?_
      refine th_xld (n := 5 * j) C hX dc_L_law_35 rfl (by omega) (by omega) ?_
      refine th_bipush (v := 15) C dc_L_law_36 th_b_15 ?_
      refine th_iand C dc_L_law_38 ?_
      obtain ⟨sel, hsel⟩ : ∃ q : Int32, q = xs (5 * j) &&& 15 := ⟨_, rfl⟩
      rw [← hsel]
      have w : sel.toInt = 0 ∨ sel.toInt = 1 ∨ sel.toInt = 2 ∨ sel.toInt = 3 ∨ sel.toInt = 4 ∨ sel.toInt = 5 ∨ sel.toInt = 6 ∨ sel.toInt = 7 ∨ sel.toInt = 8 ∨ sel.toInt = 9 ∨ sel.toInt = 10 ∨ sel.toInt = 11 ∨ (sel.toInt < 0 ∨ 11 < sel.toInt) := by omega
      rcases w with w | w | w | w | w | w | w | w | w | w | w | w | w
      · refine th_tableIn (tgt := 100) C dc_L_law_39 (by omega) (by omega) (by rw [w]; rfl) (by decide) ?_
        refine th_aload_n C dc_L_law_100 rfl rfl ?_
        refine th_aload_n C dc_L_law_101 rfl rfl ?_
        refine th_iload C dc_L_law_102 rfl ?_
        refine th_iconst (v := 1) C dc_L_law_104 th_c_1 ?_
        refine tq_iadd C dc_L_law_105 rfl th_l_1 (fun y1 f1 b1 => ?_)
        refine th_xld (n := 5 * j + 1) C hX dc_L_law_106 rfl (by omega) (by omega) ?_
        refine th_aload_n C dc_L_law_107 rfl rfl ?_
        refine th_iload C dc_L_law_108 rfl ?_
        refine th_iconst (v := 2) C dc_L_law_110 th_c_2 ?_
        refine tq_iadd C dc_L_law_111 rfl th_l_2 (fun y2 f2 b2 => ?_)
        refine th_xld (n := 5 * j + 2) C hX dc_L_law_112 rfl (by omega) (by omega) ?_
        refine th_aload_n C dc_L_law_113 rfl rfl ?_
        refine th_iload C dc_L_law_114 rfl ?_
        refine th_iconst (v := 3) C dc_L_law_116 th_c_3 ?_
        refine tq_iadd C dc_L_law_117 rfl th_l_3 (fun y3 f3 b3 => ?_)
        refine th_xld (n := 5 * j + 3) C hX dc_L_law_118 rfl (by omega) (by omega) ?_
        refine th_aload_n C dc_L_law_119 rfl rfl ?_
        refine th_iload C dc_L_law_120 rfl ?_
        refine th_iconst (v := 4) C dc_L_law_122 th_c_4 ?_
        refine tq_iadd C dc_L_law_123 rfl th_l_4 (fun y4 f4 b4 => ?_)
        refine th_xld (n := 5 * j + 4) C hX dc_L_law_124 rfl (by omega) (by omega) ?_
        refine th_aload_n C dc_L_law_125 rfl rfl ?_
        refine th_callW C (q_add l hl J (xs (5 * j + 1)) (xs (5 * j + 2)) (xs (5 * j + 3)) (xs (5 * j + 4)) hA (by omega)) okW_58 (th_okR_mono (kc' := 500000) (ks' := 7000000) rfl (by (try dsimp only); omega) (by (try dsimp only); omega)) (Nat.le_of_ble_eq_true rfl) dc_L_law_126 rfl (fun k1 J1 pk => ?_)
        obtain ⟨pk, fk⟩ := pk
        have hB1 := ro_OI_fr hB fk
        refine th_istore (lv' := [(0, .inr (some (90, 0))), (1, .inr (some (0, 0))), (2, .inr (some (20, 0))), (3, .inr (some (17, 0))), (4, .inl i), (5, .inl k1)]) C dc_L_law_129 (by decide) rfl ?_
        refine th_aload_n C dc_L_law_131 rfl rfl ?_
        refine th_aload_n C dc_L_law_132 rfl rfl ?_
        refine th_iload C dc_L_law_133 rfl ?_
        refine th_iconst (v := 1) C dc_L_law_135 th_c_1 ?_
        refine tq_iadd C dc_L_law_136 rfl th_l_1 (fun y1 f1 b1 => ?_)
        refine th_xld (n := 5 * j + 1) C hX dc_L_law_137 rfl (by omega) (by omega) ?_
        refine th_aload_n C dc_L_law_138 rfl rfl ?_
        refine th_iload C dc_L_law_139 rfl ?_
        refine th_iconst (v := 2) C dc_L_law_141 th_c_2 ?_
        refine tq_iadd C dc_L_law_142 rfl th_l_2 (fun y2 f2 b2 => ?_)
        refine th_xld (n := 5 * j + 2) C hX dc_L_law_143 rfl (by omega) (by omega) ?_
        refine th_aload_n C dc_L_law_144 rfl rfl ?_
        refine th_iload C dc_L_law_145 rfl ?_
        refine th_iconst (v := 3) C dc_L_law_147 th_c_3 ?_
        refine tq_iadd C dc_L_law_148 rfl th_l_3 (fun y3 f3 b3 => ?_)
        refine th_xld (n := 5 * j + 3) C hX dc_L_law_149 rfl (by omega) (by omega) ?_
        refine th_aload_n C dc_L_law_150 rfl rfl ?_
        refine th_iload C dc_L_law_151 rfl ?_
        refine th_iconst (v := 4) C dc_L_law_153 th_c_4 ?_
        refine tq_iadd C dc_L_law_154 rfl th_l_4 (fun y4 f4 b4 => ?_)
        refine th_xld (n := 5 * j + 4) C hX dc_L_law_155 rfl (by omega) (by omega) ?_
        refine tq_callVi C (o_O_add l hl J1 (xs (5 * j + 1)) (xs (5 * j + 2)) (xs (5 * j + 3)) (xs (5 * j + 4)) hB1 ) ok_L_63 cl_20 (show 0 < 1 from by omega) (th_okR_mono (kc' := 500000) (ks' := 7000000) rfl (by (try dsimp only); omega) (by (try dsimp only); omega)) (Nat.le_of_ble_eq_true rfl) dc_L_law_156 rfl (fun b1 J2 pm => ?_)
        refine th_istore (lv' := [(0, .inr (some (90, 0))), (1, .inr (some (0, 0))), (2, .inr (some (20, 0))), (3, .inr (some (17, 0))), (4, .inl i), (5, .inl k1), (6, .inl b1)]) C dc_L_law_159 (by decide) rfl ?_
        have hA2 := th_Inv_fr pk (fun t i k q => pm.1.2.2.2.1 t i k (by omega))
        have hB2 := ro_OI_fr (ro_mono (K' := 800 * (j : Int) + 800) pm.1 (by omega) (by omega)) (fun _ _ _ _ => rfl)
        refine th_goto (tgt := 548) C dc_L_law_161 (by decide) ?_
        refine th_sub C (lv' := [(0, .inr (some (90, 0))), (1, .inr (some (0, 0))), (2, .inr (some (20, 0))), (3, .inr (some (17, 0))), (4, .inl i)]) th_m57 ?_
        exact tail J2 sl _ _ hA2 hB2 (by (try dsimp only); omega) (by (try dsimp only); omega)
      · refine th_tableIn (tgt := 164) C dc_L_law_39 (by omega) (by omega) (by rw [w]; rfl) (by decide) ?_
        refine th_aload_n C dc_L_law_164 rfl rfl ?_
        refine th_aload_n C dc_L_law_165 rfl rfl ?_
        refine th_iload C dc_L_law_166 rfl ?_
        refine th_iconst (v := 1) C dc_L_law_168 th_c_1 ?_
        refine tq_iadd C dc_L_law_169 rfl th_l_1 (fun y1 f1 b1 => ?_)
        refine th_xld (n := 5 * j + 1) C hX dc_L_law_170 rfl (by omega) (by omega) ?_
        refine th_aload_n C dc_L_law_171 rfl rfl ?_
        refine th_callW C (q_clear l hl J (xs (5 * j + 1)) hA (by omega)) okW_64 (th_okR_mono (kc' := 500000) (ks' := 7000000) rfl (by (try dsimp only); omega) (by (try dsimp only); omega)) (Nat.le_of_ble_eq_true rfl) dc_L_law_172 rfl (fun k1 J1 pk => ?_)
        obtain ⟨pk, fk⟩ := pk
        have hB1 := ro_OI_fr hB fk
        refine th_istore (lv' := [(0, .inr (some (90, 0))), (1, .inr (some (0, 0))), (2, .inr (some (20, 0))), (3, .inr (some (17, 0))), (4, .inl i), (5, .inl k1)]) C dc_L_law_175 (by decide) rfl ?_
        refine th_aload_n C dc_L_law_177 rfl rfl ?_
        refine th_aload_n C dc_L_law_178 rfl rfl ?_
        refine th_iload C dc_L_law_179 rfl ?_
        refine th_iconst (v := 1) C dc_L_law_181 th_c_1 ?_
        refine tq_iadd C dc_L_law_182 rfl th_l_1 (fun y1 f1 b1 => ?_)
        refine th_xld (n := 5 * j + 1) C hX dc_L_law_183 rfl (by omega) (by omega) ?_
        refine tq_callVi C (o_O_clear l hl J1 (xs (5 * j + 1)) hB1 ) ok_L_67 cl_20 (show 0 < 1 from by omega) (th_okR_mono (kc' := 500000) (ks' := 7000000) rfl (by (try dsimp only); omega) (by (try dsimp only); omega)) (Nat.le_of_ble_eq_true rfl) dc_L_law_184 rfl (fun b1 J2 pm => ?_)
        refine th_istore (lv' := [(0, .inr (some (90, 0))), (1, .inr (some (0, 0))), (2, .inr (some (20, 0))), (3, .inr (some (17, 0))), (4, .inl i), (5, .inl k1), (6, .inl b1)]) C dc_L_law_187 (by decide) rfl ?_
        have hA2 := th_Inv_fr pk (fun t i k q => pm.1.2.2.2.1 t i k (by omega))
        have hB2 := ro_OI_fr (ro_mono (K' := 800 * (j : Int) + 800) pm.1 (by omega) (by omega)) (fun _ _ _ _ => rfl)
        refine th_goto (tgt := 548) C dc_L_law_189 (by decide) ?_
        refine th_sub C (lv' := [(0, .inr (some (90, 0))), (1, .inr (some (0, 0))), (2, .inr (some (20, 0))), (3, .inr (some (17, 0))), (4, .inl i)]) th_m57 ?_
        exact tail J2 sl _ _ hA2 hB2 (by (try dsimp only); omega) (by (try dsimp only); omega)
      · refine th_tableIn (tgt := 192) C dc_L_law_39 (by omega) (by omega) (by rw [w]; rfl) (by decide) ?_
        refine th_aload_n C dc_L_law_192 rfl rfl ?_
        refine th_aload_n C dc_L_law_193 rfl rfl ?_
        refine th_iload C dc_L_law_194 rfl ?_
        refine th_iconst (v := 1) C dc_L_law_196 th_c_1 ?_
        refine tq_iadd C dc_L_law_197 rfl th_l_1 (fun y1 f1 b1 => ?_)
        refine th_xld (n := 5 * j + 1) C hX dc_L_law_198 rfl (by omega) (by omega) ?_
        refine th_aload_n C dc_L_law_199 rfl rfl ?_
        refine th_callW C (q_start l hl J (xs (5 * j + 1)) hA (by omega)) okW_68 (th_okR_mono (kc' := 500000) (ks' := 7000000) rfl (by (try dsimp only); omega) (by (try dsimp only); omega)) (Nat.le_of_ble_eq_true rfl) dc_L_law_200 rfl (fun k1 J1 pk => ?_)
        obtain ⟨pk, fk⟩ := pk
        have hB1 := ro_OI_fr hB fk
        refine th_istore (lv' := [(0, .inr (some (90, 0))), (1, .inr (some (0, 0))), (2, .inr (some (20, 0))), (3, .inr (some (17, 0))), (4, .inl i), (5, .inl k1)]) C dc_L_law_203 (by decide) rfl ?_
        refine th_aload_n C dc_L_law_205 rfl rfl ?_
        refine th_aload_n C dc_L_law_206 rfl rfl ?_
        refine th_iload C dc_L_law_207 rfl ?_
        refine th_iconst (v := 1) C dc_L_law_209 th_c_1 ?_
        refine tq_iadd C dc_L_law_210 rfl th_l_1 (fun y1 f1 b1 => ?_)
        refine th_xld (n := 5 * j + 1) C hX dc_L_law_211 rfl (by omega) (by omega) ?_
        refine tq_callVi C (o_O_start l hl J1 (xs (5 * j + 1)) hB1 ) ok_L_70 cl_20 (show 0 < 1 from by omega) (th_okR_mono (kc' := 500000) (ks' := 7000000) rfl (by (try dsimp only); omega) (by (try dsimp only); omega)) (Nat.le_of_ble_eq_true rfl) dc_L_law_212 rfl (fun b1 J2 pm => ?_)
        refine th_istore (lv' := [(0, .inr (some (90, 0))), (1, .inr (some (0, 0))), (2, .inr (some (20, 0))), (3, .inr (some (17, 0))), (4, .inl i), (5, .inl k1), (6, .inl b1)]) C dc_L_law_215 (by decide) rfl ?_
        have hA2 := th_Inv_fr pk (fun t i k q => pm.1.2.2.2.1 t i k (by omega))
        have hB2 := ro_OI_fr (ro_mono (K' := 800 * (j : Int) + 800) pm.1 (by omega) (by omega)) (fun _ _ _ _ => rfl)
        refine th_goto (tgt := 548) C dc_L_law_217 (by decide) ?_
        refine th_sub C (lv' := [(0, .inr (some (90, 0))), (1, .inr (some (0, 0))), (2, .inr (some (20, 0))), (3, .inr (some (17, 0))), (4, .inl i)]) th_m57 ?_
        exact tail J2 sl _ _ hA2 hB2 (by (try dsimp only); omega) (by (try dsimp only); omega)
      · refine th_tableIn (tgt := 220) C dc_L_law_39 (by omega) (by omega) (by rw [w]; rfl) (by decide) ?_
        refine th_aload_n C dc_L_law_220 rfl rfl ?_
        refine th_aload_n C dc_L_law_221 rfl rfl ?_
        refine th_iload C dc_L_law_222 rfl ?_
        refine th_iconst (v := 1) C dc_L_law_224 th_c_1 ?_
        refine tq_iadd C dc_L_law_225 rfl th_l_1 (fun y1 f1 b1 => ?_)
        refine th_xld (n := 5 * j + 1) C hX dc_L_law_226 rfl (by omega) (by omega) ?_
        refine th_aload_n C dc_L_law_227 rfl rfl ?_
        refine th_callW C (q_run l hl J (xs (5 * j + 1)) hA (by omega)) okW_71 (th_okR_mono (kc' := 500000) (ks' := 7000000) rfl (by (try dsimp only); omega) (by (try dsimp only); omega)) (Nat.le_of_ble_eq_true rfl) dc_L_law_228 rfl (fun k1 J1 pk => ?_)
        obtain ⟨pk, fk⟩ := pk
        have hB1 := ro_OI_fr hB fk
        refine th_istore (lv' := [(0, .inr (some (90, 0))), (1, .inr (some (0, 0))), (2, .inr (some (20, 0))), (3, .inr (some (17, 0))), (4, .inl i), (5, .inl k1)]) C dc_L_law_231 (by decide) rfl ?_
        refine th_aload_n C dc_L_law_233 rfl rfl ?_
        refine th_aload_n C dc_L_law_234 rfl rfl ?_
        refine th_iload C dc_L_law_235 rfl ?_
        refine th_iconst (v := 1) C dc_L_law_237 th_c_1 ?_
        refine tq_iadd C dc_L_law_238 rfl th_l_1 (fun y1 f1 b1 => ?_)
        refine th_xld (n := 5 * j + 1) C hX dc_L_law_239 rfl (by omega) (by omega) ?_
        refine tq_callVi C (o_O_run l hl J1 (xs (5 * j + 1)) hB1 (by omega)) ok_L_73 cl_20 (show 0 < 1 from by omega) (th_okR_mono (kc' := 500000) (ks' := 7000000) rfl (by (try dsimp only); omega) (by (try dsimp only); omega)) (Nat.le_of_ble_eq_true rfl) dc_L_law_240 rfl (fun b1 J2 pm => ?_)
        refine th_istore (lv' := [(0, .inr (some (90, 0))), (1, .inr (some (0, 0))), (2, .inr (some (20, 0))), (3, .inr (some (17, 0))), (4, .inl i), (5, .inl k1), (6, .inl b1)]) C dc_L_law_243 (by decide) rfl ?_
        have hA2 := th_Inv_fr pk (fun t i k q => pm.1.2.2.2.1 t i k (by omega))
        have hB2 := ro_OI_fr (ro_mono (K' := 800 * (j : Int) + 800) pm.1 (by omega) (by omega)) (fun _ _ _ _ => rfl)
        refine th_goto (tgt := 548) C dc_L_law_245 (by decide) ?_
        refine th_sub C (lv' := [(0, .inr (some (90, 0))), (1, .inr (some (0, 0))), (2, .inr (some (20, 0))), (3, .inr (some (17, 0))), (4, .inl i)]) th_m57 ?_
        exact tail J2 sl _ _ hA2 hB2 (by (try dsimp only); omega) (by (try dsimp only); omega)
      · refine th_tableIn (tgt := 248) C dc_L_law_39 (by omega) (by omega) (by rw [w]; rfl) (by decide) ?_
        refine th_aload_n C dc_L_law_248 rfl rfl ?_
        refine th_aload_n C dc_L_law_249 rfl rfl ?_
        refine th_iload C dc_L_law_250 rfl ?_
        refine th_iconst (v := 1) C dc_L_law_252 th_c_1 ?_
        refine tq_iadd C dc_L_law_253 rfl th_l_1 (fun y1 f1 b1 => ?_)
        refine th_xld (n := 5 * j + 1) C hX dc_L_law_254 rfl (by omega) (by omega) ?_
        refine th_aload_n C dc_L_law_255 rfl rfl ?_
        refine th_callW C (q_interrupt l hl J (xs (5 * j + 1)) hA (by omega)) okW_74 (th_okR_mono (kc' := 500000) (ks' := 7000000) rfl (by (try dsimp only); omega) (by (try dsimp only); omega)) (Nat.le_of_ble_eq_true rfl) dc_L_law_256 rfl (fun k1 J1 pk => ?_)
        obtain ⟨pk, fk⟩ := pk
        have hB1 := ro_OI_fr hB fk
        refine th_istore (lv' := [(0, .inr (some (90, 0))), (1, .inr (some (0, 0))), (2, .inr (some (20, 0))), (3, .inr (some (17, 0))), (4, .inl i), (5, .inl k1)]) C dc_L_law_259 (by decide) rfl ?_
        refine th_aload_n C dc_L_law_261 rfl rfl ?_
        refine th_aload_n C dc_L_law_262 rfl rfl ?_
        refine th_iload C dc_L_law_263 rfl ?_
        refine th_iconst (v := 1) C dc_L_law_265 th_c_1 ?_
        refine tq_iadd C dc_L_law_266 rfl th_l_1 (fun y1 f1 b1 => ?_)
        refine th_xld (n := 5 * j + 1) C hX dc_L_law_267 rfl (by omega) (by omega) ?_
        refine tq_callVi C (o_O_interrupt l hl J1 (xs (5 * j + 1)) hB1 ) ok_L_76 cl_20 (show 0 < 1 from by omega) (th_okR_mono (kc' := 500000) (ks' := 7000000) rfl (by (try dsimp only); omega) (by (try dsimp only); omega)) (Nat.le_of_ble_eq_true rfl) dc_L_law_268 rfl (fun b1 J2 pm => ?_)
        refine th_istore (lv' := [(0, .inr (some (90, 0))), (1, .inr (some (0, 0))), (2, .inr (some (20, 0))), (3, .inr (some (17, 0))), (4, .inl i), (5, .inl k1), (6, .inl b1)]) C dc_L_law_271 (by decide) rfl ?_
        have hA2 := th_Inv_fr pk (fun t i k q => pm.1.2.2.2.1 t i k (by omega))
        have hB2 := ro_OI_fr (ro_mono (K' := 800 * (j : Int) + 800) pm.1 (by omega) (by omega)) (fun _ _ _ _ => rfl)
        refine th_goto (tgt := 548) C dc_L_law_273 (by decide) ?_
        refine th_sub C (lv' := [(0, .inr (some (90, 0))), (1, .inr (some (0, 0))), (2, .inr (some (20, 0))), (3, .inr (some (17, 0))), (4, .inl i)]) th_m57 ?_
        exact tail J2 sl _ _ hA2 hB2 (by (try dsimp only); omega) (by (try dsimp only); omega)
      · refine th_tableIn (tgt := 276) C dc_L_law_39 (by omega) (by omega) (by rw [w]; rfl) (by decide) ?_
        refine th_aload_n C dc_L_law_276 rfl rfl ?_
        refine th_aload_n C dc_L_law_277 rfl rfl ?_
        refine th_iload C dc_L_law_278 rfl ?_
        refine th_iconst (v := 1) C dc_L_law_280 th_c_1 ?_
        refine tq_iadd C dc_L_law_281 rfl th_l_1 (fun y1 f1 b1 => ?_)
        refine th_xld (n := 5 * j + 1) C hX dc_L_law_282 rfl (by omega) (by omega) ?_
        refine th_aload_n C dc_L_law_283 rfl rfl ?_
        refine th_callW C (q_slice l hl J (xs (5 * j + 1)) hA (by omega)) okW_77 (th_okR_mono (kc' := 500000) (ks' := 7000000) rfl (by (try dsimp only); omega) (by (try dsimp only); omega)) (Nat.le_of_ble_eq_true rfl) dc_L_law_284 rfl (fun k1 J1 pk => ?_)
        obtain ⟨pk, fk⟩ := pk
        have hB1 := ro_OI_fr hB fk
        refine th_istore (lv' := [(0, .inr (some (90, 0))), (1, .inr (some (0, 0))), (2, .inr (some (20, 0))), (3, .inr (some (17, 0))), (4, .inl i), (5, .inl k1)]) C dc_L_law_287 (by decide) rfl ?_
        refine th_aload_n C dc_L_law_289 rfl rfl ?_
        refine th_aload_n C dc_L_law_290 rfl rfl ?_
        refine th_iload C dc_L_law_291 rfl ?_
        refine th_iconst (v := 1) C dc_L_law_293 th_c_1 ?_
        refine tq_iadd C dc_L_law_294 rfl th_l_1 (fun y1 f1 b1 => ?_)
        refine th_xld (n := 5 * j + 1) C hX dc_L_law_295 rfl (by omega) (by omega) ?_
        refine tq_callVi C (o_O_slice l hl J1 (xs (5 * j + 1)) hB1 ) ok_L_79 cl_20 (show 0 < 1 from by omega) (th_okR_mono (kc' := 500000) (ks' := 7000000) rfl (by (try dsimp only); omega) (by (try dsimp only); omega)) (Nat.le_of_ble_eq_true rfl) dc_L_law_296 rfl (fun b1 J2 pm => ?_)
        refine th_istore (lv' := [(0, .inr (some (90, 0))), (1, .inr (some (0, 0))), (2, .inr (some (20, 0))), (3, .inr (some (17, 0))), (4, .inl i), (5, .inl k1), (6, .inl b1)]) C dc_L_law_299 (by decide) rfl ?_
        rcases pk with ⟨k0, d1, a1, g1⟩ | ⟨k0, d1, g1⟩ <;> rcases pm with ⟨g2, d2, a2, t2⟩ | ⟨g2, d2, t2⟩
        · have hA2 := th_Inv_fr g1 (fun t i k q => g2.2.2.2.1 t i k (by omega))
          have hB2 := ro_OI_fr (ro_mono (K' := 800 * (j : Int) + 800) g2 (by omega) (by omega)) (fun _ _ _ _ => rfl)
          have f17 := g2.2.2.2.1 17 0 0 (by decide)
          refine th_aload_n C dc_L_law_301 rfl rfl ?_
          refine tq_callVp C (o_O_thrown l hl J2) ok_L_80 cl_20 (show 0 < 1 from by omega) (th_okR_mono (kc' := 500000) (ks' := 7000000) rfl (by (try dsimp only); omega) (by (try dsimp only); omega)) (Nat.le_of_ble_eq_true rfl) dc_L_law_302 rfl (fun x3 p3 => ?_)
          refine th_iload C dc_L_law_305 rfl ?_
          refine tq_icmp_eq (tgt := 312) C dc_L_law_307 (by decide) rfl rfl (fun c3 => ?_) (fun c3 => absurd (by omega) c3)
          refine th_iload C dc_L_law_312 rfl ?_
          refine tq_if_ne (tgt := 329) C dc_L_law_314 (by decide) rfl (fun c4 => absurd k0 c4) (fun c4 => ?_)
          refine th_aload_n C dc_L_law_317 rfl rfl ?_
          refine th_iconst (v := 0) C dc_L_law_318 th_c_0 ?_
          refine th_lcm (mu := th_m J2) (n := 0) (b := b1) (tgt := 329) C dc_L_law_319 dc_L_law_320 dc_L_law_322 dc_L_law_323 dc_L_law_324 (by decide) rfl (show 0 < 1 from by omega) rfl (fun _ => rfl) (th_ixN th_l_0 (by decide) (show 0 < 1 from by omega)) (f17.trans (th_eqi (by omega))) ?_
          refine th_goto (tgt := 548) C dc_L_law_329 (by decide) ?_
          refine th_sub C (lv' := [(0, .inr (some (90, 0))), (1, .inr (some (0, 0))), (2, .inr (some (20, 0))), (3, .inr (some (17, 0))), (4, .inl i)]) th_m57 ?_
          exact tail J2 _ _ _ hA2 hB2 (by (try dsimp only); omega) (by (try dsimp only); omega)
        · exact absurd d1 d2
        · exact absurd d2 d1
        · have hA2 := th_Inv_fr g1 (fun t i k q => g2.2.2.2.1 t i k (by omega))
          have hB2 := ro_OI_fr (ro_mono (K' := 800 * (j : Int) + 800) g2 (by omega) (by omega)) (fun _ _ _ _ => rfl)
          have f17 := g2.2.2.2.1 17 0 0 (by decide)
          refine th_aload_n C dc_L_law_301 rfl rfl ?_
          refine tq_callVp C (o_O_thrown l hl J2) ok_L_80 cl_20 (show 0 < 1 from by omega) (th_okR_mono (kc' := 500000) (ks' := 7000000) rfl (by (try dsimp only); omega) (by (try dsimp only); omega)) (Nat.le_of_ble_eq_true rfl) dc_L_law_302 rfl (fun x3 p3 => ?_)
          refine th_iload C dc_L_law_305 rfl ?_
          refine tq_icmp_eq (tgt := 312) C dc_L_law_307 (by decide) rfl rfl (fun c3 => ?_) (fun c3 => absurd (by omega) c3)
          refine th_iload C dc_L_law_312 rfl ?_
          refine tq_if_ne (tgt := 329) C dc_L_law_314 (by decide) rfl (fun c4 => ?_) (fun c4 => absurd (by omega) c4)
          refine th_goto (tgt := 548) C dc_L_law_329 (by decide) ?_
          refine th_sub C (lv' := [(0, .inr (some (90, 0))), (1, .inr (some (0, 0))), (2, .inr (some (20, 0))), (3, .inr (some (17, 0))), (4, .inl i)]) th_m57 ?_
          exact tail J2 _ _ _ hA2 hB2 (by (try dsimp only); omega) (by (try dsimp only); omega)
      · refine th_tableIn (tgt := 332) C dc_L_law_39 (by omega) (by omega) (by rw [w]; rfl) (by decide) ?_
        refine th_aload_n C dc_L_law_332 rfl rfl ?_
        refine th_aload_n C dc_L_law_333 rfl rfl ?_
        refine th_iload C dc_L_law_334 rfl ?_
        refine th_iconst (v := 1) C dc_L_law_336 th_c_1 ?_
        refine tq_iadd C dc_L_law_337 rfl th_l_1 (fun y1 f1 b1 => ?_)
        refine th_xld (n := 5 * j + 1) C hX dc_L_law_338 rfl (by omega) (by omega) ?_
        refine th_aload_n C dc_L_law_339 rfl rfl ?_
        refine th_iload C dc_L_law_340 rfl ?_
        refine th_iconst (v := 2) C dc_L_law_342 th_c_2 ?_
        refine tq_iadd C dc_L_law_343 rfl th_l_2 (fun y2 f2 b2 => ?_)
        refine th_xld (n := 5 * j + 2) C hX dc_L_law_344 rfl (by omega) (by omega) ?_
        refine th_aload_n C dc_L_law_345 rfl rfl ?_
        refine th_callW C (q_global l hl J (xs (5 * j + 1)) (xs (5 * j + 2)) hA (by omega)) okW_84 (th_okR_mono (kc' := 500000) (ks' := 7000000) rfl (by (try dsimp only); omega) (by (try dsimp only); omega)) (Nat.le_of_ble_eq_true rfl) dc_L_law_346 rfl (fun k1 J1 pk => ?_)
        obtain ⟨pk, fk⟩ := pk
        have hB1 := ro_OI_fr hB fk
        refine th_istore (lv' := [(0, .inr (some (90, 0))), (1, .inr (some (0, 0))), (2, .inr (some (20, 0))), (3, .inr (some (17, 0))), (4, .inl i), (5, .inl k1)]) C dc_L_law_349 (by decide) rfl ?_
        refine th_aload_n C dc_L_law_351 rfl rfl ?_
        refine th_aload_n C dc_L_law_352 rfl rfl ?_
        refine th_iload C dc_L_law_353 rfl ?_
        refine th_iconst (v := 1) C dc_L_law_355 th_c_1 ?_
        refine tq_iadd C dc_L_law_356 rfl th_l_1 (fun y1 f1 b1 => ?_)
        refine th_xld (n := 5 * j + 1) C hX dc_L_law_357 rfl (by omega) (by omega) ?_
        refine th_aload_n C dc_L_law_358 rfl rfl ?_
        refine th_iload C dc_L_law_359 rfl ?_
        refine th_iconst (v := 2) C dc_L_law_361 th_c_2 ?_
        refine tq_iadd C dc_L_law_362 rfl th_l_2 (fun y2 f2 b2 => ?_)
        refine th_xld (n := 5 * j + 2) C hX dc_L_law_363 rfl (by omega) (by omega) ?_
        refine tq_callVi C (o_O_global l hl J1 (xs (5 * j + 1)) (xs (5 * j + 2)) hB1 ) ok_L_87 cl_20 (show 0 < 1 from by omega) (th_okR_mono (kc' := 500000) (ks' := 7000000) rfl (by (try dsimp only); omega) (by (try dsimp only); omega)) (Nat.le_of_ble_eq_true rfl) dc_L_law_364 rfl (fun b1 J2 pm => ?_)
        refine th_istore (lv' := [(0, .inr (some (90, 0))), (1, .inr (some (0, 0))), (2, .inr (some (20, 0))), (3, .inr (some (17, 0))), (4, .inl i), (5, .inl k1), (6, .inl b1)]) C dc_L_law_367 (by decide) rfl ?_
        have hA2 := th_Inv_fr pk (fun t i k q => pm.1.2.2.2.1 t i k (by omega))
        have hB2 := ro_OI_fr (ro_mono (K' := 800 * (j : Int) + 800) pm.1 (by omega) (by omega)) (fun _ _ _ _ => rfl)
        refine th_goto (tgt := 548) C dc_L_law_369 (by decide) ?_
        refine th_sub C (lv' := [(0, .inr (some (90, 0))), (1, .inr (some (0, 0))), (2, .inr (some (20, 0))), (3, .inr (some (17, 0))), (4, .inl i)]) th_m57 ?_
        exact tail J2 sl _ _ hA2 hB2 (by (try dsimp only); omega) (by (try dsimp only); omega)
      · refine th_tableIn (tgt := 372) C dc_L_law_39 (by omega) (by omega) (by rw [w]; rfl) (by decide) ?_
        refine th_aload_n C dc_L_law_372 rfl rfl ?_
        refine th_aload_n C dc_L_law_373 rfl rfl ?_
        refine th_iload C dc_L_law_374 rfl ?_
        refine th_iconst (v := 1) C dc_L_law_376 th_c_1 ?_
        refine tq_iadd C dc_L_law_377 rfl th_l_1 (fun y1 f1 b1 => ?_)
        refine th_xld (n := 5 * j + 1) C hX dc_L_law_378 rfl (by omega) (by omega) ?_
        refine th_aload_n C dc_L_law_379 rfl rfl ?_
        refine th_iload C dc_L_law_380 rfl ?_
        refine th_iconst (v := 2) C dc_L_law_382 th_c_2 ?_
        refine tq_iadd C dc_L_law_383 rfl th_l_2 (fun y2 f2 b2 => ?_)
        refine th_xld (n := 5 * j + 2) C hX dc_L_law_384 rfl (by omega) (by omega) ?_
        refine th_aload_n C dc_L_law_385 rfl rfl ?_
        refine th_callW C (q_special l hl J (xs (5 * j + 1)) (xs (5 * j + 2)) hA (by omega)) okW_88 (th_okR_mono (kc' := 500000) (ks' := 7000000) rfl (by (try dsimp only); omega) (by (try dsimp only); omega)) (Nat.le_of_ble_eq_true rfl) dc_L_law_386 rfl (fun k1 J1 pk => ?_)
        obtain ⟨pk, fk⟩ := pk
        have hB1 := ro_OI_fr hB fk
        refine th_istore (lv' := [(0, .inr (some (90, 0))), (1, .inr (some (0, 0))), (2, .inr (some (20, 0))), (3, .inr (some (17, 0))), (4, .inl i), (5, .inl k1)]) C dc_L_law_389 (by decide) rfl ?_
        refine th_aload_n C dc_L_law_391 rfl rfl ?_
        refine th_aload_n C dc_L_law_392 rfl rfl ?_
        refine th_iload C dc_L_law_393 rfl ?_
        refine th_iconst (v := 1) C dc_L_law_395 th_c_1 ?_
        refine tq_iadd C dc_L_law_396 rfl th_l_1 (fun y1 f1 b1 => ?_)
        refine th_xld (n := 5 * j + 1) C hX dc_L_law_397 rfl (by omega) (by omega) ?_
        refine th_aload_n C dc_L_law_398 rfl rfl ?_
        refine th_iload C dc_L_law_399 rfl ?_
        refine th_iconst (v := 2) C dc_L_law_401 th_c_2 ?_
        refine tq_iadd C dc_L_law_402 rfl th_l_2 (fun y2 f2 b2 => ?_)
        refine th_xld (n := 5 * j + 2) C hX dc_L_law_403 rfl (by omega) (by omega) ?_
        refine tq_callVi C (o_O_special l hl J1 (xs (5 * j + 1)) (xs (5 * j + 2)) hB1 ) ok_L_90 cl_20 (show 0 < 1 from by omega) (th_okR_mono (kc' := 500000) (ks' := 7000000) rfl (by (try dsimp only); omega) (by (try dsimp only); omega)) (Nat.le_of_ble_eq_true rfl) dc_L_law_404 rfl (fun b1 J2 pm => ?_)
        refine th_istore (lv' := [(0, .inr (some (90, 0))), (1, .inr (some (0, 0))), (2, .inr (some (20, 0))), (3, .inr (some (17, 0))), (4, .inl i), (5, .inl k1), (6, .inl b1)]) C dc_L_law_407 (by decide) rfl ?_
        have hA2 := th_Inv_fr pk (fun t i k q => pm.1.2.2.2.1 t i k (by omega))
        have hB2 := ro_OI_fr (ro_mono (K' := 800 * (j : Int) + 800) pm.1 (by omega) (by omega)) (fun _ _ _ _ => rfl)
        refine th_goto (tgt := 548) C dc_L_law_409 (by decide) ?_
        refine th_sub C (lv' := [(0, .inr (some (90, 0))), (1, .inr (some (0, 0))), (2, .inr (some (20, 0))), (3, .inr (some (17, 0))), (4, .inl i)]) th_m57 ?_
        exact tail J2 sl _ _ hA2 hB2 (by (try dsimp only); omega) (by (try dsimp only); omega)
      · refine th_tableIn (tgt := 412) C dc_L_law_39 (by omega) (by omega) (by rw [w]; rfl) (by decide) ?_
        refine th_aload_n C dc_L_law_412 rfl rfl ?_
        refine th_aload_n C dc_L_law_413 rfl rfl ?_
        refine th_iload C dc_L_law_414 rfl ?_
        refine th_iconst (v := 1) C dc_L_law_416 th_c_1 ?_
        refine tq_iadd C dc_L_law_417 rfl th_l_1 (fun y1 f1 b1 => ?_)
        refine th_xld (n := 5 * j + 1) C hX dc_L_law_418 rfl (by omega) (by omega) ?_
        refine th_aload_n C dc_L_law_419 rfl rfl ?_
        refine th_iload C dc_L_law_420 rfl ?_
        refine th_iconst (v := 2) C dc_L_law_422 th_c_2 ?_
        refine tq_iadd C dc_L_law_423 rfl th_l_2 (fun y2 f2 b2 => ?_)
        refine th_xld (n := 5 * j + 2) C hX dc_L_law_424 rfl (by omega) (by omega) ?_
        refine th_aload_n C dc_L_law_425 rfl rfl ?_
        refine th_callW C (q_look l hl J (xs (5 * j + 1)) (xs (5 * j + 2)) hA (by omega)) okW_91 (th_okR_mono (kc' := 500000) (ks' := 7000000) rfl (by (try dsimp only); omega) (by (try dsimp only); omega)) (Nat.le_of_ble_eq_true rfl) dc_L_law_426 rfl (fun k1 J1 pk => ?_)
        obtain ⟨pk, fk⟩ := pk
        have hB1 := ro_OI_fr hB fk
        refine th_istore (lv' := [(0, .inr (some (90, 0))), (1, .inr (some (0, 0))), (2, .inr (some (20, 0))), (3, .inr (some (17, 0))), (4, .inl i), (5, .inl k1)]) C dc_L_law_429 (by decide) rfl ?_
        refine th_aload_n C dc_L_law_431 rfl rfl ?_
        refine th_aload_n C dc_L_law_432 rfl rfl ?_
        refine th_iload C dc_L_law_433 rfl ?_
        refine th_iconst (v := 1) C dc_L_law_435 th_c_1 ?_
        refine tq_iadd C dc_L_law_436 rfl th_l_1 (fun y1 f1 b1 => ?_)
        refine th_xld (n := 5 * j + 1) C hX dc_L_law_437 rfl (by omega) (by omega) ?_
        refine th_aload_n C dc_L_law_438 rfl rfl ?_
        refine th_iload C dc_L_law_439 rfl ?_
        refine th_iconst (v := 2) C dc_L_law_441 th_c_2 ?_
        refine tq_iadd C dc_L_law_442 rfl th_l_2 (fun y2 f2 b2 => ?_)
        refine th_xld (n := 5 * j + 2) C hX dc_L_law_443 rfl (by omega) (by omega) ?_
        refine tq_callVi C (o_O_look l hl J1 (xs (5 * j + 1)) (xs (5 * j + 2)) hB1 ) ok_L_93 cl_20 (show 0 < 1 from by omega) (th_okR_mono (kc' := 500000) (ks' := 7000000) rfl (by (try dsimp only); omega) (by (try dsimp only); omega)) (Nat.le_of_ble_eq_true rfl) dc_L_law_444 rfl (fun b1 J2 pm => ?_)
        refine th_istore (lv' := [(0, .inr (some (90, 0))), (1, .inr (some (0, 0))), (2, .inr (some (20, 0))), (3, .inr (some (17, 0))), (4, .inl i), (5, .inl k1), (6, .inl b1)]) C dc_L_law_447 (by decide) rfl ?_
        have hA2 := th_Inv_fr pk (fun t i k q => pm.1.2.2.2.1 t i k (by omega))
        have hB2 := ro_OI_fr (ro_mono (K' := 800 * (j : Int) + 800) pm.1 (by omega) (by omega)) (fun _ _ _ _ => rfl)
        refine th_goto (tgt := 548) C dc_L_law_449 (by decide) ?_
        refine th_sub C (lv' := [(0, .inr (some (90, 0))), (1, .inr (some (0, 0))), (2, .inr (some (20, 0))), (3, .inr (some (17, 0))), (4, .inl i)]) th_m57 ?_
        exact tail J2 sl _ _ hA2 hB2 (by (try dsimp only); omega) (by (try dsimp only); omega)
      · refine th_tableIn (tgt := 452) C dc_L_law_39 (by omega) (by omega) (by rw [w]; rfl) (by decide) ?_
        refine th_aload_n C dc_L_law_452 rfl rfl ?_
        refine th_aload_n C dc_L_law_453 rfl rfl ?_
        refine th_iload C dc_L_law_454 rfl ?_
        refine th_iconst (v := 1) C dc_L_law_456 th_c_1 ?_
        refine tq_iadd C dc_L_law_457 rfl th_l_1 (fun y1 f1 b1 => ?_)
        refine th_xld (n := 5 * j + 1) C hX dc_L_law_458 rfl (by omega) (by omega) ?_
        refine th_aload_n C dc_L_law_459 rfl rfl ?_
        refine th_iload C dc_L_law_460 rfl ?_
        refine th_iconst (v := 2) C dc_L_law_462 th_c_2 ?_
        refine tq_iadd C dc_L_law_463 rfl th_l_2 (fun y2 f2 b2 => ?_)
        refine th_xld (n := 5 * j + 2) C hX dc_L_law_464 rfl (by omega) (by omega) ?_
        refine th_aload_n C dc_L_law_465 rfl rfl ?_
        refine th_callW C (q_lock l hl J (xs (5 * j + 1)) (xs (5 * j + 2)) hA (by omega)) okW_94 (th_okR_mono (kc' := 500000) (ks' := 7000000) rfl (by (try dsimp only); omega) (by (try dsimp only); omega)) (Nat.le_of_ble_eq_true rfl) dc_L_law_466 rfl (fun k1 J1 pk => ?_)
        obtain ⟨pk, fk⟩ := pk
        have hB1 := ro_OI_fr hB fk
        refine th_istore (lv' := [(0, .inr (some (90, 0))), (1, .inr (some (0, 0))), (2, .inr (some (20, 0))), (3, .inr (some (17, 0))), (4, .inl i), (5, .inl k1)]) C dc_L_law_469 (by decide) rfl ?_
        refine th_aload_n C dc_L_law_471 rfl rfl ?_
        refine th_aload_n C dc_L_law_472 rfl rfl ?_
        refine th_iload C dc_L_law_473 rfl ?_
        refine th_iconst (v := 1) C dc_L_law_475 th_c_1 ?_
        refine tq_iadd C dc_L_law_476 rfl th_l_1 (fun y1 f1 b1 => ?_)
        refine th_xld (n := 5 * j + 1) C hX dc_L_law_477 rfl (by omega) (by omega) ?_
        refine th_aload_n C dc_L_law_478 rfl rfl ?_
        refine th_iload C dc_L_law_479 rfl ?_
        refine th_iconst (v := 2) C dc_L_law_481 th_c_2 ?_
        refine tq_iadd C dc_L_law_482 rfl th_l_2 (fun y2 f2 b2 => ?_)
        refine th_xld (n := 5 * j + 2) C hX dc_L_law_483 rfl (by omega) (by omega) ?_
        refine tq_callVi C (o_O_lock l hl J1 (xs (5 * j + 1)) (xs (5 * j + 2)) hB1 ) ok_L_96 cl_20 (show 0 < 1 from by omega) (th_okR_mono (kc' := 500000) (ks' := 7000000) rfl (by (try dsimp only); omega) (by (try dsimp only); omega)) (Nat.le_of_ble_eq_true rfl) dc_L_law_484 rfl (fun b1 J2 pm => ?_)
        refine th_istore (lv' := [(0, .inr (some (90, 0))), (1, .inr (some (0, 0))), (2, .inr (some (20, 0))), (3, .inr (some (17, 0))), (4, .inl i), (5, .inl k1), (6, .inl b1)]) C dc_L_law_487 (by decide) rfl ?_
        have hA2 := th_Inv_fr pk (fun t i k q => pm.1.2.2.2.1 t i k (by omega))
        have hB2 := ro_OI_fr (ro_mono (K' := 800 * (j : Int) + 800) pm.1 (by omega) (by omega)) (fun _ _ _ _ => rfl)
        refine th_goto (tgt := 548) C dc_L_law_489 (by decide) ?_
        refine th_sub C (lv' := [(0, .inr (some (90, 0))), (1, .inr (some (0, 0))), (2, .inr (some (20, 0))), (3, .inr (some (17, 0))), (4, .inl i)]) th_m57 ?_
        exact tail J2 sl _ _ hA2 hB2 (by (try dsimp only); omega) (by (try dsimp only); omega)
      · refine th_tableIn (tgt := 492) C dc_L_law_39 (by omega) (by omega) (by rw [w]; rfl) (by decide) ?_
        refine th_aload_n C dc_L_law_492 rfl rfl ?_
        refine th_aload_n C dc_L_law_493 rfl rfl ?_
        refine th_iload C dc_L_law_494 rfl ?_
        refine th_iconst (v := 1) C dc_L_law_496 th_c_1 ?_
        refine tq_iadd C dc_L_law_497 rfl th_l_1 (fun y1 f1 b1 => ?_)
        refine th_xld (n := 5 * j + 1) C hX dc_L_law_498 rfl (by omega) (by omega) ?_
        refine th_aload_n C dc_L_law_499 rfl rfl ?_
        refine th_callW C (q_said l hl J (xs (5 * j + 1)) hA (by omega)) okW_97 (th_okR_mono (kc' := 500000) (ks' := 7000000) rfl (by (try dsimp only); omega) (by (try dsimp only); omega)) (Nat.le_of_ble_eq_true rfl) dc_L_law_500 rfl (fun k1 J1 pk => ?_)
        obtain ⟨pk, fk⟩ := pk
        have hB1 := ro_OI_fr hB fk
        refine th_istore (lv' := [(0, .inr (some (90, 0))), (1, .inr (some (0, 0))), (2, .inr (some (20, 0))), (3, .inr (some (17, 0))), (4, .inl i), (5, .inl k1)]) C dc_L_law_503 (by decide) rfl ?_
        refine th_aload_n C dc_L_law_505 rfl rfl ?_
        refine th_aload_n C dc_L_law_506 rfl rfl ?_
        refine th_iload C dc_L_law_507 rfl ?_
        refine th_iconst (v := 1) C dc_L_law_509 th_c_1 ?_
        refine tq_iadd C dc_L_law_510 rfl th_l_1 (fun y1 f1 b1 => ?_)
        refine th_xld (n := 5 * j + 1) C hX dc_L_law_511 rfl (by omega) (by omega) ?_
        refine tq_callVi C (o_O_said l hl J1 (xs (5 * j + 1)) hB1 ) ok_L_99 cl_20 (show 0 < 1 from by omega) (th_okR_mono (kc' := 500000) (ks' := 7000000) rfl (by (try dsimp only); omega) (by (try dsimp only); omega)) (Nat.le_of_ble_eq_true rfl) dc_L_law_512 rfl (fun b1 J2 pm => ?_)
        refine th_istore (lv' := [(0, .inr (some (90, 0))), (1, .inr (some (0, 0))), (2, .inr (some (20, 0))), (3, .inr (some (17, 0))), (4, .inl i), (5, .inl k1), (6, .inl b1)]) C dc_L_law_515 (by decide) rfl ?_
        have hA2 := th_Inv_fr pk (fun t i k q => pm.1.2.2.2.1 t i k (by omega))
        have hB2 := ro_OI_fr (ro_mono (K' := 800 * (j : Int) + 800) pm.1 (by omega) (by omega)) (fun _ _ _ _ => rfl)
        refine th_goto (tgt := 548) C dc_L_law_517 (by decide) ?_
        refine th_sub C (lv' := [(0, .inr (some (90, 0))), (1, .inr (some (0, 0))), (2, .inr (some (20, 0))), (3, .inr (some (17, 0))), (4, .inl i)]) th_m57 ?_
        exact tail J2 sl _ _ hA2 hB2 (by (try dsimp only); omega) (by (try dsimp only); omega)
      · refine th_tableIn (tgt := 520) C dc_L_law_39 (by omega) (by omega) (by rw [w]; rfl) (by decide) ?_
        refine th_aload_n C dc_L_law_520 rfl rfl ?_
        refine th_aload_n C dc_L_law_521 rfl rfl ?_
        refine th_iload C dc_L_law_522 rfl ?_
        refine th_iconst (v := 1) C dc_L_law_524 th_c_1 ?_
        refine tq_iadd C dc_L_law_525 rfl th_l_1 (fun y1 f1 b1 => ?_)
        refine th_xld (n := 5 * j + 1) C hX dc_L_law_526 rfl (by omega) (by omega) ?_
        refine th_aload_n C dc_L_law_527 rfl rfl ?_
        refine th_callW C (q_count l hl J (xs (5 * j + 1)) hA (by omega)) okW_100 (th_okR_mono (kc' := 500000) (ks' := 7000000) rfl (by (try dsimp only); omega) (by (try dsimp only); omega)) (Nat.le_of_ble_eq_true rfl) dc_L_law_528 rfl (fun k1 J1 pk => ?_)
        obtain ⟨pk, fk⟩ := pk
        have hB1 := ro_OI_fr hB fk
        refine th_istore (lv' := [(0, .inr (some (90, 0))), (1, .inr (some (0, 0))), (2, .inr (some (20, 0))), (3, .inr (some (17, 0))), (4, .inl i), (5, .inl k1)]) C dc_L_law_531 (by decide) rfl ?_
        refine th_aload_n C dc_L_law_533 rfl rfl ?_
        refine th_aload_n C dc_L_law_534 rfl rfl ?_
        refine th_iload C dc_L_law_535 rfl ?_
        refine th_iconst (v := 1) C dc_L_law_537 th_c_1 ?_
        refine tq_iadd C dc_L_law_538 rfl th_l_1 (fun y1 f1 b1 => ?_)
        refine th_xld (n := 5 * j + 1) C hX dc_L_law_539 rfl (by omega) (by omega) ?_
        refine tq_callVi C (o_O_count l hl J1 (xs (5 * j + 1)) hB1 ) ok_L_102 cl_20 (show 0 < 1 from by omega) (th_okR_mono (kc' := 500000) (ks' := 7000000) rfl (by (try dsimp only); omega) (by (try dsimp only); omega)) (Nat.le_of_ble_eq_true rfl) dc_L_law_540 rfl (fun b1 J2 pm => ?_)
        refine th_istore (lv' := [(0, .inr (some (90, 0))), (1, .inr (some (0, 0))), (2, .inr (some (20, 0))), (3, .inr (some (17, 0))), (4, .inl i), (5, .inl k1), (6, .inl b1)]) C dc_L_law_543 (by decide) rfl ?_
        have hA2 := th_Inv_fr pk (fun t i k q => pm.1.2.2.2.1 t i k (by omega))
        have hB2 := ro_OI_fr (ro_mono (K' := 800 * (j : Int) + 800) pm.1 (by omega) (by omega)) (fun _ _ _ _ => rfl)
        refine th_goto (tgt := 548) C dc_L_law_545 (by decide) ?_
        refine th_sub C (lv' := [(0, .inr (some (90, 0))), (1, .inr (some (0, 0))), (2, .inr (some (20, 0))), (3, .inr (some (17, 0))), (4, .inl i)]) th_m57 ?_
        exact tail J2 sl _ _ hA2 hB2 (by (try dsimp only); omega) (by (try dsimp only); omega)
      · refine th_tableOut (tgt := 548) C dc_L_law_39 w (by decide) ?_
        exact tail J sl _ _ (th_mono hA (by omega) (by omega)) (ro_mono hB (by omega) (by omega)) (by omega) (by omega)

