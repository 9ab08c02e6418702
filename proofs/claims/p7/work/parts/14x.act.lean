set_option maxRecDepth 100000 in
set_option maxHeartbeats 4000000 in
theorem o_O_act (l : Launch) (hl : l.stackTraces = false) {K sl : Int} {Z : th_I} (I : th_I) (t : Int32) (o : Int32) (a : Int32) (b : Int32) (tn : Nat) (hI : th_OI K sl Z I) (htn : (tn : Int) = t.toInt) (ht : 0 ≤ t.toInt ∧ t.toInt ≤ 4) (hv : th_valid o.toInt a.toInt b.toInt) (hK : K < 1000000) (hs : (I 32 0 tn).toInt = 1) : th_F l yn_O_act cb_O_act 7 none { frames := 6, cells := 0, slots := 0, locals := 137 } [.inr (some (20, 0)), .inl t, .inl o, .inl a, .inl b] (th_m I) (th_rv (fun J => th_OI (K + 1) sl Z J ∧ (True))) := by
  refine th_of hl (by decide +kernel) (Nat.le_of_ble_eq_true rfl) (fun z C hQ hN => ?_)
  show th_G l z 7 0 [(0, .inr (some (20, 0))), (1, .inl t), (2, .inl o), (3, .inl a), (4, .inl b)] [] (th_m I) 0 0
  have hb := hI.2.2.1
  unfold th_valid at hv
  refine th_iload_n C dc_O_act_0 rfl rfl ?_
  have w1 : o.toInt = 0 ∨ o.toInt = 1 ∨ o.toInt = 2 ∨ o.toInt = 3 ∨ o.toInt = 4 ∨ o.toInt = 5 ∨ o.toInt = 6 ∨ o.toInt = 7 ∨ o.toInt = 8 ∨ o.toInt = 9 ∨ o.toInt = 10 ∨ o.toInt = 11 ∨ o.toInt = 12 ∨ o.toInt = 13 ∨ o.toInt = 14 ∨ o.toInt = 15 ∨ o.toInt = 16 ∨ o.toInt = 17 ∨ o.toInt = 18 ∨ o.toInt = 19 ∨ (o.toInt < 0 ∨ 19 < o.toInt) := by omega
  rcases w1 with w1 | w1 | w1 | w1 | w1 | w1 | w1 | w1 | w1 | w1 | w1 | w1 | w1 | w1 | w1 | w1 | w1 | w1 | w1 | w1 | w1
  · refine th_tableIn (tgt := 96) C dc_O_act_1 (by omega) (by omega) (by rw [w1]; rfl) (by decide) ?_
    refine th_aload_n C dc_O_act_96 rfl rfl ?_
    refine th_iload_n C dc_O_act_97 rfl rfl ?_
    refine th_iload_n C dc_O_act_98 rfl rfl ?_
    refine th_iload C dc_O_act_99 rfl ?_
    refine tq_callVv C (o_O_put l hl I t a b hI (by omega) (by omega)) ok_O_139 cl_20 (show 0 < 1 from by omega) rfl (Nat.le_of_ble_eq_true rfl) dc_O_act_101 rfl (fun I2 p2 => ?_)
    obtain ⟨hI2, p2⟩ := p2
    refine th_goto (tgt := 442) C dc_O_act_104 (by decide) ?_
    exact th_vret C hQ dc_O_act_442 (by decide) (by decide) ⟨_, rfl, rfl, (by first | exact hI2 | exact ro_mono hI2 (by omega) (by omega)), trivial⟩
  · refine th_tableIn (tgt := 107) C dc_O_act_1 (by omega) (by omega) (by rw [w1]; rfl) (by decide) ?_
    refine th_aload_n C dc_O_act_107 rfl rfl ?_
    refine th_iload_n C dc_O_act_108 rfl rfl ?_
    refine th_iload_n C dc_O_act_109 rfl rfl ?_
    refine th_aload_n C dc_O_act_110 rfl rfl ?_
    refine th_iload_n C dc_O_act_111 rfl rfl ?_
    refine th_iload_n C dc_O_act_112 rfl rfl ?_
    refine tq_callVp C (o_O_get l hl I t a hI (by omega) (by omega)) ok_O_136 cl_20 (show 0 < 1 from by omega) rfl (Nat.le_of_ble_eq_true rfl) dc_O_act_113 rfl (fun x3 p3 => ?_)
    refine th_iload C dc_O_act_116 rfl ?_
    refine tq_iadd C dc_O_act_118 rfl rfl (fun x4 e4 a4 => ?_)
    refine tq_callVv C (o_O_put l hl I t a x4 hI (by omega) (by omega)) ok_O_139 cl_20 (show 0 < 1 from by omega) rfl (Nat.le_of_ble_eq_true rfl) dc_O_act_119 rfl (fun I5 p5 => ?_)
    obtain ⟨hI5, p5⟩ := p5
    refine th_goto (tgt := 442) C dc_O_act_122 (by decide) ?_
    exact th_vret C hQ dc_O_act_442 (by decide) (by decide) ⟨_, rfl, rfl, (by first | exact hI5 | exact ro_mono hI5 (by omega) (by omega)), trivial⟩
  · refine th_tableIn (tgt := 125) C dc_O_act_1 (by omega) (by omega) (by rw [w1]; rfl) (by decide) ?_
    refine th_aload_n C dc_O_act_125 rfl rfl ?_
    refine th_iload_n C dc_O_act_126 rfl rfl ?_
    refine th_iload_n C dc_O_act_127 rfl rfl ?_
    refine th_aload_n C dc_O_act_128 rfl rfl ?_
    refine th_iload_n C dc_O_act_129 rfl rfl ?_
    refine th_iload C dc_O_act_130 rfl ?_
    refine tq_callVp C (o_O_get l hl I t b hI (by omega) (by omega)) ok_O_136 cl_20 (show 0 < 1 from by omega) rfl (Nat.le_of_ble_eq_true rfl) dc_O_act_132 rfl (fun x6 p6 => ?_)
    refine tq_callVv C (o_O_put l hl I t a x6 hI (by omega) (by omega)) ok_O_139 cl_20 (show 0 < 1 from by omega) rfl (Nat.le_of_ble_eq_true rfl) dc_O_act_135 rfl (fun I7 p7 => ?_)
    obtain ⟨hI7, p7⟩ := p7
    refine th_goto (tgt := 442) C dc_O_act_138 (by decide) ?_
    exact th_vret C hQ dc_O_act_442 (by decide) (by decide) ⟨_, rfl, rfl, (by first | exact hI7 | exact ro_mono hI7 (by omega) (by omega)), trivial⟩
  · refine th_tableIn (tgt := 141) C dc_O_act_1 (by omega) (by omega) (by rw [w1]; rfl) (by decide) ?_
    refine th_aload_n C dc_O_act_141 rfl rfl ?_
    refine th_iload_n C dc_O_act_142 rfl rfl ?_
    refine th_iload_n C dc_O_act_143 rfl rfl ?_
    refine th_iload C dc_O_act_144 rfl ?_
    refine tq_callVv C (o_O_bind l hl I t a b tn hI htn (by omega) (by omega)) ok_O_166 cl_20 (show 0 < 1 from by omega) rfl (Nat.le_of_ble_eq_true rfl) dc_O_act_146 rfl (fun I8 p8 => ?_)
    obtain ⟨hI8, p8⟩ := p8
    refine th_goto (tgt := 442) C dc_O_act_149 (by decide) ?_
    exact th_vret C hQ dc_O_act_442 (by decide) (by decide) ⟨_, rfl, rfl, (by first | exact hI8 | exact ro_mono hI8 (by omega) (by omega)), trivial⟩
  · refine th_tableIn (tgt := 152) C dc_O_act_1 (by omega) (by omega) (by rw [w1]; rfl) (by decide) ?_
    refine th_aload_n C dc_O_act_152 rfl rfl ?_
    refine th_iload_n C dc_O_act_153 rfl rfl ?_
    refine th_iload_n C dc_O_act_154 rfl rfl ?_
    refine tq_callVv C (o_O_unbind l hl I t a tn hI htn (by omega) (by omega)) ok_O_169 cl_20 (show 0 < 1 from by omega) rfl (Nat.le_of_ble_eq_true rfl) dc_O_act_155 rfl (fun I9 p9 => ?_)
    obtain ⟨hI9, p9⟩ := p9
    refine th_goto (tgt := 442) C dc_O_act_158 (by decide) ?_
    exact th_vret C hQ dc_O_act_442 (by decide) (by decide) ⟨_, rfl, rfl, (by first | exact hI9 | exact ro_mono hI9 (by omega) (by omega)), trivial⟩
  · refine th_tableIn (tgt := 161) C dc_O_act_1 (by omega) (by omega) (by rw [w1]; rfl) (by decide) ?_
    refine th_aload_n C dc_O_act_161 rfl rfl ?_
    refine th_iload_n C dc_O_act_162 rfl rfl ?_
    refine th_iload_n C dc_O_act_163 rfl rfl ?_
    refine th_iload_n C dc_O_act_164 rfl rfl ?_
    refine th_iload C dc_O_act_165 rfl ?_
    refine tq_callVv C (o_O_locks l hl I t o a b tn hI htn (by omega) (by omega) (by omega) (by omega)) ok_O_172 cl_20 (show 0 < 1 from by omega) rfl (Nat.le_of_ble_eq_true rfl) dc_O_act_167 rfl (fun I10 p10 => ?_)
    obtain ⟨hI10, p10⟩ := p10
    refine th_goto (tgt := 442) C dc_O_act_170 (by decide) ?_
    exact th_vret C hQ dc_O_act_442 (by decide) (by decide) ⟨_, rfl, rfl, (by first | exact hI10 | exact ro_mono hI10 (by omega) (by omega)), trivial⟩
  · refine th_tableIn (tgt := 161) C dc_O_act_1 (by omega) (by omega) (by rw [w1]; rfl) (by decide) ?_
    refine th_aload_n C dc_O_act_161 rfl rfl ?_
    refine th_iload_n C dc_O_act_162 rfl rfl ?_
    refine th_iload_n C dc_O_act_163 rfl rfl ?_
    refine th_iload_n C dc_O_act_164 rfl rfl ?_
    refine th_iload C dc_O_act_165 rfl ?_
    refine tq_callVv C (o_O_locks l hl I t o a b tn hI htn (by omega) (by omega) (by omega) (by omega)) ok_O_172 cl_20 (show 0 < 1 from by omega) rfl (Nat.le_of_ble_eq_true rfl) dc_O_act_167 rfl (fun I11 p11 => ?_)
    obtain ⟨hI11, p11⟩ := p11
    refine th_goto (tgt := 442) C dc_O_act_170 (by decide) ?_
    exact th_vret C hQ dc_O_act_442 (by decide) (by decide) ⟨_, rfl, rfl, (by first | exact hI11 | exact ro_mono hI11 (by omega) (by omega)), trivial⟩
  · refine th_tableIn (tgt := 161) C dc_O_act_1 (by omega) (by omega) (by rw [w1]; rfl) (by decide) ?_
    refine th_aload_n C dc_O_act_161 rfl rfl ?_
    refine th_iload_n C dc_O_act_162 rfl rfl ?_
    refine th_iload_n C dc_O_act_163 rfl rfl ?_
    refine th_iload_n C dc_O_act_164 rfl rfl ?_
    refine th_iload C dc_O_act_165 rfl ?_
    refine tq_callVv C (o_O_locks l hl I t o a b tn hI htn (by omega) (by omega) (by omega) (by omega)) ok_O_172 cl_20 (show 0 < 1 from by omega) rfl (Nat.le_of_ble_eq_true rfl) dc_O_act_167 rfl (fun I12 p12 => ?_)
    obtain ⟨hI12, p12⟩ := p12
    refine th_goto (tgt := 442) C dc_O_act_170 (by decide) ?_
    exact th_vret C hQ dc_O_act_442 (by decide) (by decide) ⟨_, rfl, rfl, (by first | exact hI12 | exact ro_mono hI12 (by omega) (by omega)), trivial⟩
  · refine th_tableIn (tgt := 173) C dc_O_act_1 (by omega) (by omega) (by rw [w1]; rfl) (by decide) ?_
    refine th_aload_n C dc_O_act_173 rfl rfl ?_
    refine th_iload_n C dc_O_act_174 rfl rfl ?_
    refine th_iload_n C dc_O_act_175 rfl rfl ?_
    refine th_iload C dc_O_act_176 rfl ?_
    obtain ⟨n13, m13⟩ := th_nat (a := a.toInt) (by omega)
    obtain ⟨n14, m14⟩ := th_nat (a := b.toInt) (by omega)
    refine tq_callVv C (o_O_await l hl I t a b tn n13 n14 hI htn m13 m14 (by omega) (by omega) (by omega) (by omega)) ok_O_176 cl_20 (show 0 < 1 from by omega) rfl (Nat.le_of_ble_eq_true rfl) dc_O_act_178 rfl (fun I15 p15 => ?_)
    obtain ⟨hI15, p15⟩ := p15
    refine th_goto (tgt := 442) C dc_O_act_181 (by decide) ?_
    exact th_vret C hQ dc_O_act_442 (by decide) (by decide) ⟨_, rfl, rfl, (by first | exact hI15 | exact ro_mono hI15 (by omega) (by omega)), trivial⟩
  · refine th_tableIn (tgt := 184) C dc_O_act_1 (by omega) (by omega) (by rw [w1]; rfl) (by decide) ?_
    refine th_iload_n C dc_O_act_184 rfl rfl ?_
    refine th_bipush (v := 9) C dc_O_act_185 th_b_9 ?_
    refine tq_icmp_ne (tgt := 204) C dc_O_act_187 (by decide) rfl th_l_9 (fun c16 => ?_) (fun c16 => ?_)
    · refine th_aload_n C dc_O_act_204 rfl rfl ?_
      refine tq_getR C dc_O_act_205 cl_20 fd_O_95 rfl (show 0 < 1 from by omega) rfl ?_
      refine th_iload_n C dc_O_act_208 rfl rfl ?_
      obtain ⟨n18, m18⟩ := th_nat (a := a.toInt) (by omega)
      refine tq_ialdN C dc_O_act_209 rfl (fun _ => rfl) (show 0 < 1 from by omega) rfl m18 (show n18 < 3 from by omega) (fun x17 e17 => ?_)
      have g17 : x17.toInt = (I 49 0 n18).toInt := by rw [e17]
      have r17 : 0 ≤ x17.toInt ∧ x17.toInt ≤ 5 := by rw [e17]; exact hI.1 49 0 n18
      refine th_istore (lv' := [(0, .inr (some (20, 0))), (1, .inl t), (2, .inl o), (3, .inl a), (4, .inl b), (5, .inl x17)]) C dc_O_act_210 (by decide) rfl ?_
      refine th_iconst (v := 0) C dc_O_act_212 th_c_0 ?_
      refine th_istore (lv' := [(0, .inr (some (20, 0))), (1, .inl t), (2, .inl o), (3, .inl a), (4, .inl b), (5, .inl x17), (6, .inl ((0 : Int32)))]) C dc_O_act_213 (by decide) rfl ?_
      have L215 : ∀ (N : Nat) (k : Int32) (I19 : th_I), (th_OI K sl Z I19) → (0 ≤ k.toInt ∧ k.toInt ≤ 5 ∧ x17.toInt - k.toInt ≤ (I19 49 0 n18).toInt) → (5 - k.toInt).toNat < N → th_G l z 7 215 [(0, .inr (some (20, 0))), (1, .inl t), (2, .inl o), (3, .inl a), (4, .inl b), (5, .inl x17), (6, .inl k)] [] (th_m I19) 0 0 := by
        intro N
        induction N with
        | zero => intro k I19 hI19 h1 hm; exact absurd hm (Nat.not_lt_zero _)
        | succ N ih =>
          intro k I19 hI19 h1 hm
          refine th_iload C dc_O_act_215 rfl ?_
          refine th_iload C dc_O_act_217 rfl ?_
          refine tq_icmp_ge (tgt := 240) C dc_O_act_219 (by decide) rfl rfl (fun c20 => ?_) (fun c20 => ?_)
          · refine th_goto (tgt := 442) C dc_O_act_240 (by decide) ?_
            exact th_vret C hQ dc_O_act_442 (by decide) (by decide) ⟨_, rfl, rfl, (by first | exact hI19 | exact ro_mono hI19 (by omega) (by omega)), trivial⟩
          · refine th_aload_n C dc_O_act_222 rfl rfl ?_
            refine th_aload_n C dc_O_act_223 rfl rfl ?_
            refine tq_getR C dc_O_act_224 cl_20 fd_O_92 rfl (show 0 < 1 from by omega) rfl ?_
            refine th_iconst (v := 5) C dc_O_act_227 th_c_5 ?_
            refine th_iload_n C dc_O_act_228 rfl rfl ?_
            refine tq_imul C dc_O_act_229 th_l_5 rfl (fun x21 e21 a21 => ?_)
            obtain ⟨n23, m23⟩ := th_nat (a := x21.toInt) (by omega)
            refine tq_ialdN C dc_O_act_230 rfl (fun _ => rfl) (show 0 < 1 from by omega) rfl m23 (show n23 < 15 from by omega) (fun x22 e22 => ?_)
            have g22 : x22.toInt = (I19 48 0 n23).toInt := by rw [e22]
            have r22 : 0 ≤ x22.toInt ∧ x22.toInt ≤ 4 := by rw [e22]; exact hI19.1 48 0 n23
            have q0 : (I19 48 0 (5 * n18 + 0)).toInt = x22.toInt := by have q : n23 = 5 * n18 + 0 := (by omega); rw [← q]; omega
            have s3 : ∀ e : Nat, (e : Int) = x22.toInt → (I19 32 0 e).toInt = 3 := fun e he => (hI19.2.2.2.2.2.1.1 n18 (by omega) 0 (by omega) (by omega) e (by omega)).1
            obtain ⟨n24, m24⟩ := th_nat (a := x22.toInt) (by omega)
            refine tq_callVv C (o_O_leaveWait l hl I19 x22 n24 hI19 m24 (by omega) (s3 _ (by omega))) ok_O_154 cl_20 (show 0 < 1 from by omega) rfl (Nat.le_of_ble_eq_true rfl) dc_O_act_231 rfl (fun I25 p25 => ?_)
            obtain ⟨hI25, p25⟩ := p25
            have d49 := p25 n18 0 (by omega) (by omega) (by omega) (by omega)
            refine tq_iinc (lv' := fun rr => [(0, .inr (some (20, 0))), (1, .inl t), (2, .inl o), (3, .inl a), (4, .inl b), (5, .inl x17), (6, .inl rr)]) C dc_O_act_234 rfl (by decide) th_c_1 rfl th_l_1 (fun rr => rfl) (fun x26 e26 a26 => ?_)
            refine th_goto (tgt := 215) C dc_O_act_237 (by decide) ?_
            exact ih x26 I25 hI25 (by omega) (by omega)
      exact L215 _ ((0 : Int32)) I hI (by have := th_l_0; omega) (Nat.lt_succ_self _)
    · refine th_aload_n C dc_O_act_190 rfl rfl ?_
      refine tq_getR C dc_O_act_191 cl_20 fd_O_95 rfl (show 0 < 1 from by omega) rfl ?_
      refine th_iload_n C dc_O_act_194 rfl rfl ?_
      obtain ⟨n28, m28⟩ := th_nat (a := a.toInt) (by omega)
      refine tq_ialdN C dc_O_act_195 rfl (fun _ => rfl) (show 0 < 1 from by omega) rfl m28 (show n28 < 3 from by omega) (fun x27 e27 => ?_)
      have g27 : x27.toInt = (I 49 0 n28).toInt := by rw [e27]
      have r27 : 0 ≤ x27.toInt ∧ x27.toInt ≤ 5 := by rw [e27]; exact hI.1 49 0 n28
      refine th_iconst (v := 1) C dc_O_act_196 th_c_1 ?_
      refine tq_icmp_le (tgt := 204) C dc_O_act_197 (by decide) rfl th_l_1 (fun c29 => ?_) (fun c29 => ?_)
      · refine th_aload_n C dc_O_act_204 rfl rfl ?_
        refine tq_getR C dc_O_act_205 cl_20 fd_O_95 rfl (show 0 < 1 from by omega) rfl ?_
        refine th_iload_n C dc_O_act_208 rfl rfl ?_
        refine tq_ialdE C dc_O_act_209 rfl (fun _ => rfl) (show 0 < 1 from by omega) rfl m28 (show n28 < 3 from by omega) e27 ?_
        refine th_istore (lv' := [(0, .inr (some (20, 0))), (1, .inl t), (2, .inl o), (3, .inl a), (4, .inl b), (5, .inl x27)]) C dc_O_act_210 (by decide) rfl ?_
        refine th_iconst (v := 0) C dc_O_act_212 th_c_0 ?_
        refine th_istore (lv' := [(0, .inr (some (20, 0))), (1, .inl t), (2, .inl o), (3, .inl a), (4, .inl b), (5, .inl x27), (6, .inl ((0 : Int32)))]) C dc_O_act_213 (by decide) rfl ?_
        have L215 : ∀ (N : Nat) (k : Int32) (I31 : th_I), (th_OI K sl Z I31) → (0 ≤ k.toInt ∧ k.toInt ≤ 5 ∧ x27.toInt - k.toInt ≤ (I31 49 0 n28).toInt) → (5 - k.toInt).toNat < N → th_G l z 7 215 [(0, .inr (some (20, 0))), (1, .inl t), (2, .inl o), (3, .inl a), (4, .inl b), (5, .inl x27), (6, .inl k)] [] (th_m I31) 0 0 := by
          intro N
          induction N with
          | zero => intro k I31 hI31 h1 hm; exact absurd hm (Nat.not_lt_zero _)
          | succ N ih =>
            intro k I31 hI31 h1 hm
            refine th_iload C dc_O_act_215 rfl ?_
            refine th_iload C dc_O_act_217 rfl ?_
            refine tq_icmp_ge (tgt := 240) C dc_O_act_219 (by decide) rfl rfl (fun c32 => ?_) (fun c32 => ?_)
            · refine th_goto (tgt := 442) C dc_O_act_240 (by decide) ?_
              exact th_vret C hQ dc_O_act_442 (by decide) (by decide) ⟨_, rfl, rfl, (by first | exact hI31 | exact ro_mono hI31 (by omega) (by omega)), trivial⟩
            · refine th_aload_n C dc_O_act_222 rfl rfl ?_
              refine th_aload_n C dc_O_act_223 rfl rfl ?_
              refine tq_getR C dc_O_act_224 cl_20 fd_O_92 rfl (show 0 < 1 from by omega) rfl ?_
              refine th_iconst (v := 5) C dc_O_act_227 th_c_5 ?_
              refine th_iload_n C dc_O_act_228 rfl rfl ?_
              refine tq_imul C dc_O_act_229 th_l_5 rfl (fun x33 e33 a33 => ?_)
              obtain ⟨n35, m35⟩ := th_nat (a := x33.toInt) (by omega)
              refine tq_ialdN C dc_O_act_230 rfl (fun _ => rfl) (show 0 < 1 from by omega) rfl m35 (show n35 < 15 from by omega) (fun x34 e34 => ?_)
              have g34 : x34.toInt = (I31 48 0 n35).toInt := by rw [e34]
              have r34 : 0 ≤ x34.toInt ∧ x34.toInt ≤ 4 := by rw [e34]; exact hI31.1 48 0 n35
              have q0 : (I31 48 0 (5 * n28 + 0)).toInt = x34.toInt := by have q : n35 = 5 * n28 + 0 := (by omega); rw [← q]; omega
              have s3 : ∀ e : Nat, (e : Int) = x34.toInt → (I31 32 0 e).toInt = 3 := fun e he => (hI31.2.2.2.2.2.1.1 n28 (by omega) 0 (by omega) (by omega) e (by omega)).1
              obtain ⟨n36, m36⟩ := th_nat (a := x34.toInt) (by omega)
              refine tq_callVv C (o_O_leaveWait l hl I31 x34 n36 hI31 m36 (by omega) (s3 _ (by omega))) ok_O_154 cl_20 (show 0 < 1 from by omega) rfl (Nat.le_of_ble_eq_true rfl) dc_O_act_231 rfl (fun I37 p37 => ?_)
              obtain ⟨hI37, p37⟩ := p37
              have d49 := p37 n28 0 (by omega) (by omega) (by omega) (by omega)
              refine tq_iinc (lv' := fun rr => [(0, .inr (some (20, 0))), (1, .inl t), (2, .inl o), (3, .inl a), (4, .inl b), (5, .inl x27), (6, .inl rr)]) C dc_O_act_234 rfl (by decide) th_c_1 rfl th_l_1 (fun rr => rfl) (fun x38 e38 a38 => ?_)
              refine th_goto (tgt := 215) C dc_O_act_237 (by decide) ?_
              exact ih x38 I37 hI37 (by omega) (by omega)
        exact L215 _ ((0 : Int32)) I hI (by have := th_l_0; omega) (Nat.lt_succ_self _)
      · refine th_iconst (v := 1) C dc_O_act_200 th_c_1 ?_
        refine th_goto (tgt := 210) C dc_O_act_201 (by decide) ?_
        refine th_istore (lv' := [(0, .inr (some (20, 0))), (1, .inl t), (2, .inl o), (3, .inl a), (4, .inl b), (5, .inl ((1 : Int32)))]) C dc_O_act_210 (by decide) rfl ?_
        refine th_iconst (v := 0) C dc_O_act_212 th_c_0 ?_
        refine th_istore (lv' := [(0, .inr (some (20, 0))), (1, .inl t), (2, .inl o), (3, .inl a), (4, .inl b), (5, .inl ((1 : Int32))), (6, .inl ((0 : Int32)))]) C dc_O_act_213 (by decide) rfl ?_
        have L215 : ∀ (N : Nat) (k : Int32) (I39 : th_I), (th_OI K sl Z I39) → (0 ≤ k.toInt ∧ k.toInt ≤ 5 ∧ 1 - k.toInt ≤ (I39 49 0 n28).toInt) → (5 - k.toInt).toNat < N → th_G l z 7 215 [(0, .inr (some (20, 0))), (1, .inl t), (2, .inl o), (3, .inl a), (4, .inl b), (5, .inl ((1 : Int32))), (6, .inl k)] [] (th_m I39) 0 0 := by
          intro N
          induction N with
          | zero => intro k I39 hI39 h1 hm; exact absurd hm (Nat.not_lt_zero _)
          | succ N ih =>
            intro k I39 hI39 h1 hm
            refine th_iload C dc_O_act_215 rfl ?_
            refine th_iload C dc_O_act_217 rfl ?_
            refine tq_icmp_ge (tgt := 240) C dc_O_act_219 (by decide) rfl th_l_1 (fun c40 => ?_) (fun c40 => ?_)
            · refine th_goto (tgt := 442) C dc_O_act_240 (by decide) ?_
              exact th_vret C hQ dc_O_act_442 (by decide) (by decide) ⟨_, rfl, rfl, (by first | exact hI39 | exact ro_mono hI39 (by omega) (by omega)), trivial⟩
            · refine th_aload_n C dc_O_act_222 rfl rfl ?_
              refine th_aload_n C dc_O_act_223 rfl rfl ?_
              refine tq_getR C dc_O_act_224 cl_20 fd_O_92 rfl (show 0 < 1 from by omega) rfl ?_
              refine th_iconst (v := 5) C dc_O_act_227 th_c_5 ?_
              refine th_iload_n C dc_O_act_228 rfl rfl ?_
              refine tq_imul C dc_O_act_229 th_l_5 rfl (fun x41 e41 a41 => ?_)
              obtain ⟨n43, m43⟩ := th_nat (a := x41.toInt) (by omega)
              refine tq_ialdN C dc_O_act_230 rfl (fun _ => rfl) (show 0 < 1 from by omega) rfl m43 (show n43 < 15 from by omega) (fun x42 e42 => ?_)
              have g42 : x42.toInt = (I39 48 0 n43).toInt := by rw [e42]
              have r42 : 0 ≤ x42.toInt ∧ x42.toInt ≤ 4 := by rw [e42]; exact hI39.1 48 0 n43
              have q0 : (I39 48 0 (5 * n28 + 0)).toInt = x42.toInt := by have q : n43 = 5 * n28 + 0 := (by omega); rw [← q]; omega
              have s3 : ∀ e : Nat, (e : Int) = x42.toInt → (I39 32 0 e).toInt = 3 := fun e he => (hI39.2.2.2.2.2.1.1 n28 (by omega) 0 (by omega) (by omega) e (by omega)).1
              obtain ⟨n44, m44⟩ := th_nat (a := x42.toInt) (by omega)
              refine tq_callVv C (o_O_leaveWait l hl I39 x42 n44 hI39 m44 (by omega) (s3 _ (by omega))) ok_O_154 cl_20 (show 0 < 1 from by omega) rfl (Nat.le_of_ble_eq_true rfl) dc_O_act_231 rfl (fun I45 p45 => ?_)
              obtain ⟨hI45, p45⟩ := p45
              have d49 := p45 n28 0 (by omega) (by omega) (by omega) (by omega)
              refine tq_iinc (lv' := fun rr => [(0, .inr (some (20, 0))), (1, .inl t), (2, .inl o), (3, .inl a), (4, .inl b), (5, .inl ((1 : Int32))), (6, .inl rr)]) C dc_O_act_234 rfl (by decide) th_c_1 rfl th_l_1 (fun rr => rfl) (fun x46 e46 a46 => ?_)
              refine th_goto (tgt := 215) C dc_O_act_237 (by decide) ?_
              exact ih x46 I45 hI45 (by omega) (by omega)
        exact L215 _ ((0 : Int32)) I hI (by have := th_l_0; omega) (Nat.lt_succ_self _)
  · refine th_tableIn (tgt := 184) C dc_O_act_1 (by omega) (by omega) (by rw [w1]; rfl) (by decide) ?_
    refine th_iload_n C dc_O_act_184 rfl rfl ?_
    refine th_bipush (v := 9) C dc_O_act_185 th_b_9 ?_
    refine tq_icmp_ne (tgt := 204) C dc_O_act_187 (by decide) rfl th_l_9 (fun c47 => ?_) (fun c47 => ?_)
    · refine th_aload_n C dc_O_act_204 rfl rfl ?_
      refine tq_getR C dc_O_act_205 cl_20 fd_O_95 rfl (show 0 < 1 from by omega) rfl ?_
      refine th_iload_n C dc_O_act_208 rfl rfl ?_
      obtain ⟨n49, m49⟩ := th_nat (a := a.toInt) (by omega)
      refine tq_ialdN C dc_O_act_209 rfl (fun _ => rfl) (show 0 < 1 from by omega) rfl m49 (show n49 < 3 from by omega) (fun x48 e48 => ?_)
      have g48 : x48.toInt = (I 49 0 n49).toInt := by rw [e48]
      have r48 : 0 ≤ x48.toInt ∧ x48.toInt ≤ 5 := by rw [e48]; exact hI.1 49 0 n49
      refine th_istore (lv' := [(0, .inr (some (20, 0))), (1, .inl t), (2, .inl o), (3, .inl a), (4, .inl b), (5, .inl x48)]) C dc_O_act_210 (by decide) rfl ?_
      refine th_iconst (v := 0) C dc_O_act_212 th_c_0 ?_
      refine th_istore (lv' := [(0, .inr (some (20, 0))), (1, .inl t), (2, .inl o), (3, .inl a), (4, .inl b), (5, .inl x48), (6, .inl ((0 : Int32)))]) C dc_O_act_213 (by decide) rfl ?_
      have L215 : ∀ (N : Nat) (k : Int32) (I50 : th_I), (th_OI K sl Z I50) → (0 ≤ k.toInt ∧ k.toInt ≤ 5 ∧ x48.toInt - k.toInt ≤ (I50 49 0 n49).toInt) → (5 - k.toInt).toNat < N → th_G l z 7 215 [(0, .inr (some (20, 0))), (1, .inl t), (2, .inl o), (3, .inl a), (4, .inl b), (5, .inl x48), (6, .inl k)] [] (th_m I50) 0 0 := by
        intro N
        induction N with
        | zero => intro k I50 hI50 h1 hm; exact absurd hm (Nat.not_lt_zero _)
        | succ N ih =>
          intro k I50 hI50 h1 hm
          refine th_iload C dc_O_act_215 rfl ?_
          refine th_iload C dc_O_act_217 rfl ?_
          refine tq_icmp_ge (tgt := 240) C dc_O_act_219 (by decide) rfl rfl (fun c51 => ?_) (fun c51 => ?_)
          · refine th_goto (tgt := 442) C dc_O_act_240 (by decide) ?_
            exact th_vret C hQ dc_O_act_442 (by decide) (by decide) ⟨_, rfl, rfl, (by first | exact hI50 | exact ro_mono hI50 (by omega) (by omega)), trivial⟩
          · refine th_aload_n C dc_O_act_222 rfl rfl ?_
            refine th_aload_n C dc_O_act_223 rfl rfl ?_
            refine tq_getR C dc_O_act_224 cl_20 fd_O_92 rfl (show 0 < 1 from by omega) rfl ?_
            refine th_iconst (v := 5) C dc_O_act_227 th_c_5 ?_
            refine th_iload_n C dc_O_act_228 rfl rfl ?_
            refine tq_imul C dc_O_act_229 th_l_5 rfl (fun x52 e52 a52 => ?_)
            obtain ⟨n54, m54⟩ := th_nat (a := x52.toInt) (by omega)
            refine tq_ialdN C dc_O_act_230 rfl (fun _ => rfl) (show 0 < 1 from by omega) rfl m54 (show n54 < 15 from by omega) (fun x53 e53 => ?_)
            have g53 : x53.toInt = (I50 48 0 n54).toInt := by rw [e53]
            have r53 : 0 ≤ x53.toInt ∧ x53.toInt ≤ 4 := by rw [e53]; exact hI50.1 48 0 n54
            have q0 : (I50 48 0 (5 * n49 + 0)).toInt = x53.toInt := by have q : n54 = 5 * n49 + 0 := (by omega); rw [← q]; omega
            have s3 : ∀ e : Nat, (e : Int) = x53.toInt → (I50 32 0 e).toInt = 3 := fun e he => (hI50.2.2.2.2.2.1.1 n49 (by omega) 0 (by omega) (by omega) e (by omega)).1
            obtain ⟨n55, m55⟩ := th_nat (a := x53.toInt) (by omega)
            refine tq_callVv C (o_O_leaveWait l hl I50 x53 n55 hI50 m55 (by omega) (s3 _ (by omega))) ok_O_154 cl_20 (show 0 < 1 from by omega) rfl (Nat.le_of_ble_eq_true rfl) dc_O_act_231 rfl (fun I56 p56 => ?_)
            obtain ⟨hI56, p56⟩ := p56
            have d49 := p56 n49 0 (by omega) (by omega) (by omega) (by omega)
            refine tq_iinc (lv' := fun rr => [(0, .inr (some (20, 0))), (1, .inl t), (2, .inl o), (3, .inl a), (4, .inl b), (5, .inl x48), (6, .inl rr)]) C dc_O_act_234 rfl (by decide) th_c_1 rfl th_l_1 (fun rr => rfl) (fun x57 e57 a57 => ?_)
            refine th_goto (tgt := 215) C dc_O_act_237 (by decide) ?_
            exact ih x57 I56 hI56 (by omega) (by omega)
      exact L215 _ ((0 : Int32)) I hI (by have := th_l_0; omega) (Nat.lt_succ_self _)
    · refine th_aload_n C dc_O_act_190 rfl rfl ?_
      refine tq_getR C dc_O_act_191 cl_20 fd_O_95 rfl (show 0 < 1 from by omega) rfl ?_
      refine th_iload_n C dc_O_act_194 rfl rfl ?_
      obtain ⟨n59, m59⟩ := th_nat (a := a.toInt) (by omega)
      refine tq_ialdN C dc_O_act_195 rfl (fun _ => rfl) (show 0 < 1 from by omega) rfl m59 (show n59 < 3 from by omega) (fun x58 e58 => ?_)
      have g58 : x58.toInt = (I 49 0 n59).toInt := by rw [e58]
      have r58 : 0 ≤ x58.toInt ∧ x58.toInt ≤ 5 := by rw [e58]; exact hI.1 49 0 n59
      refine th_iconst (v := 1) C dc_O_act_196 th_c_1 ?_
      refine tq_icmp_le (tgt := 204) C dc_O_act_197 (by decide) rfl th_l_1 (fun c60 => ?_) (fun c60 => ?_)
      · refine th_aload_n C dc_O_act_204 rfl rfl ?_
        refine tq_getR C dc_O_act_205 cl_20 fd_O_95 rfl (show 0 < 1 from by omega) rfl ?_
        refine th_iload_n C dc_O_act_208 rfl rfl ?_
        refine tq_ialdE C dc_O_act_209 rfl (fun _ => rfl) (show 0 < 1 from by omega) rfl m59 (show n59 < 3 from by omega) e58 ?_
        refine th_istore (lv' := [(0, .inr (some (20, 0))), (1, .inl t), (2, .inl o), (3, .inl a), (4, .inl b), (5, .inl x58)]) C dc_O_act_210 (by decide) rfl ?_
        refine th_iconst (v := 0) C dc_O_act_212 th_c_0 ?_
        refine th_istore (lv' := [(0, .inr (some (20, 0))), (1, .inl t), (2, .inl o), (3, .inl a), (4, .inl b), (5, .inl x58), (6, .inl ((0 : Int32)))]) C dc_O_act_213 (by decide) rfl ?_
        have L215 : ∀ (N : Nat) (k : Int32) (I62 : th_I), (th_OI K sl Z I62) → (0 ≤ k.toInt ∧ k.toInt ≤ 5 ∧ x58.toInt - k.toInt ≤ (I62 49 0 n59).toInt) → (5 - k.toInt).toNat < N → th_G l z 7 215 [(0, .inr (some (20, 0))), (1, .inl t), (2, .inl o), (3, .inl a), (4, .inl b), (5, .inl x58), (6, .inl k)] [] (th_m I62) 0 0 := by
          intro N
          induction N with
          | zero => intro k I62 hI62 h1 hm; exact absurd hm (Nat.not_lt_zero _)
          | succ N ih =>
            intro k I62 hI62 h1 hm
            refine th_iload C dc_O_act_215 rfl ?_
            refine th_iload C dc_O_act_217 rfl ?_
            refine tq_icmp_ge (tgt := 240) C dc_O_act_219 (by decide) rfl rfl (fun c63 => ?_) (fun c63 => ?_)
            · refine th_goto (tgt := 442) C dc_O_act_240 (by decide) ?_
              exact th_vret C hQ dc_O_act_442 (by decide) (by decide) ⟨_, rfl, rfl, (by first | exact hI62 | exact ro_mono hI62 (by omega) (by omega)), trivial⟩
            · refine th_aload_n C dc_O_act_222 rfl rfl ?_
              refine th_aload_n C dc_O_act_223 rfl rfl ?_
              refine tq_getR C dc_O_act_224 cl_20 fd_O_92 rfl (show 0 < 1 from by omega) rfl ?_
              refine th_iconst (v := 5) C dc_O_act_227 th_c_5 ?_
              refine th_iload_n C dc_O_act_228 rfl rfl ?_
              refine tq_imul C dc_O_act_229 th_l_5 rfl (fun x64 e64 a64 => ?_)
              obtain ⟨n66, m66⟩ := th_nat (a := x64.toInt) (by omega)
              refine tq_ialdN C dc_O_act_230 rfl (fun _ => rfl) (show 0 < 1 from by omega) rfl m66 (show n66 < 15 from by omega) (fun x65 e65 => ?_)
              have g65 : x65.toInt = (I62 48 0 n66).toInt := by rw [e65]
              have r65 : 0 ≤ x65.toInt ∧ x65.toInt ≤ 4 := by rw [e65]; exact hI62.1 48 0 n66
              have q0 : (I62 48 0 (5 * n59 + 0)).toInt = x65.toInt := by have q : n66 = 5 * n59 + 0 := (by omega); rw [← q]; omega
              have s3 : ∀ e : Nat, (e : Int) = x65.toInt → (I62 32 0 e).toInt = 3 := fun e he => (hI62.2.2.2.2.2.1.1 n59 (by omega) 0 (by omega) (by omega) e (by omega)).1
              obtain ⟨n67, m67⟩ := th_nat (a := x65.toInt) (by omega)
              refine tq_callVv C (o_O_leaveWait l hl I62 x65 n67 hI62 m67 (by omega) (s3 _ (by omega))) ok_O_154 cl_20 (show 0 < 1 from by omega) rfl (Nat.le_of_ble_eq_true rfl) dc_O_act_231 rfl (fun I68 p68 => ?_)
              obtain ⟨hI68, p68⟩ := p68
              have d49 := p68 n59 0 (by omega) (by omega) (by omega) (by omega)
              refine tq_iinc (lv' := fun rr => [(0, .inr (some (20, 0))), (1, .inl t), (2, .inl o), (3, .inl a), (4, .inl b), (5, .inl x58), (6, .inl rr)]) C dc_O_act_234 rfl (by decide) th_c_1 rfl th_l_1 (fun rr => rfl) (fun x69 e69 a69 => ?_)
              refine th_goto (tgt := 215) C dc_O_act_237 (by decide) ?_
              exact ih x69 I68 hI68 (by omega) (by omega)
        exact L215 _ ((0 : Int32)) I hI (by have := th_l_0; omega) (Nat.lt_succ_self _)
      · refine th_iconst (v := 1) C dc_O_act_200 th_c_1 ?_
        refine th_goto (tgt := 210) C dc_O_act_201 (by decide) ?_
        refine th_istore (lv' := [(0, .inr (some (20, 0))), (1, .inl t), (2, .inl o), (3, .inl a), (4, .inl b), (5, .inl ((1 : Int32)))]) C dc_O_act_210 (by decide) rfl ?_
        refine th_iconst (v := 0) C dc_O_act_212 th_c_0 ?_
        refine th_istore (lv' := [(0, .inr (some (20, 0))), (1, .inl t), (2, .inl o), (3, .inl a), (4, .inl b), (5, .inl ((1 : Int32))), (6, .inl ((0 : Int32)))]) C dc_O_act_213 (by decide) rfl ?_
        have L215 : ∀ (N : Nat) (k : Int32) (I70 : th_I), (th_OI K sl Z I70) → (0 ≤ k.toInt ∧ k.toInt ≤ 5 ∧ 1 - k.toInt ≤ (I70 49 0 n59).toInt) → (5 - k.toInt).toNat < N → th_G l z 7 215 [(0, .inr (some (20, 0))), (1, .inl t), (2, .inl o), (3, .inl a), (4, .inl b), (5, .inl ((1 : Int32))), (6, .inl k)] [] (th_m I70) 0 0 := by
          intro N
          induction N with
          | zero => intro k I70 hI70 h1 hm; exact absurd hm (Nat.not_lt_zero _)
          | succ N ih =>
            intro k I70 hI70 h1 hm
            refine th_iload C dc_O_act_215 rfl ?_
            refine th_iload C dc_O_act_217 rfl ?_
            refine tq_icmp_ge (tgt := 240) C dc_O_act_219 (by decide) rfl th_l_1 (fun c71 => ?_) (fun c71 => ?_)
            · refine th_goto (tgt := 442) C dc_O_act_240 (by decide) ?_
              exact th_vret C hQ dc_O_act_442 (by decide) (by decide) ⟨_, rfl, rfl, (by first | exact hI70 | exact ro_mono hI70 (by omega) (by omega)), trivial⟩
            · refine th_aload_n C dc_O_act_222 rfl rfl ?_
              refine th_aload_n C dc_O_act_223 rfl rfl ?_
              refine tq_getR C dc_O_act_224 cl_20 fd_O_92 rfl (show 0 < 1 from by omega) rfl ?_
              refine th_iconst (v := 5) C dc_O_act_227 th_c_5 ?_
              refine th_iload_n C dc_O_act_228 rfl rfl ?_
              refine tq_imul C dc_O_act_229 th_l_5 rfl (fun x72 e72 a72 => ?_)
              obtain ⟨n74, m74⟩ := th_nat (a := x72.toInt) (by omega)
              refine tq_ialdN C dc_O_act_230 rfl (fun _ => rfl) (show 0 < 1 from by omega) rfl m74 (show n74 < 15 from by omega) (fun x73 e73 => ?_)
              have g73 : x73.toInt = (I70 48 0 n74).toInt := by rw [e73]
              have r73 : 0 ≤ x73.toInt ∧ x73.toInt ≤ 4 := by rw [e73]; exact hI70.1 48 0 n74
              have q0 : (I70 48 0 (5 * n59 + 0)).toInt = x73.toInt := by have q : n74 = 5 * n59 + 0 := (by omega); rw [← q]; omega
              have s3 : ∀ e : Nat, (e : Int) = x73.toInt → (I70 32 0 e).toInt = 3 := fun e he => (hI70.2.2.2.2.2.1.1 n59 (by omega) 0 (by omega) (by omega) e (by omega)).1
              obtain ⟨n75, m75⟩ := th_nat (a := x73.toInt) (by omega)
              refine tq_callVv C (o_O_leaveWait l hl I70 x73 n75 hI70 m75 (by omega) (s3 _ (by omega))) ok_O_154 cl_20 (show 0 < 1 from by omega) rfl (Nat.le_of_ble_eq_true rfl) dc_O_act_231 rfl (fun I76 p76 => ?_)
              obtain ⟨hI76, p76⟩ := p76
              have d49 := p76 n59 0 (by omega) (by omega) (by omega) (by omega)
              refine tq_iinc (lv' := fun rr => [(0, .inr (some (20, 0))), (1, .inl t), (2, .inl o), (3, .inl a), (4, .inl b), (5, .inl ((1 : Int32))), (6, .inl rr)]) C dc_O_act_234 rfl (by decide) th_c_1 rfl th_l_1 (fun rr => rfl) (fun x77 e77 a77 => ?_)
              refine th_goto (tgt := 215) C dc_O_act_237 (by decide) ?_
              exact ih x77 I76 hI76 (by omega) (by omega)
        exact L215 _ ((0 : Int32)) I hI (by have := th_l_0; omega) (Nat.lt_succ_self _)
  · refine th_tableIn (tgt := 243) C dc_O_act_1 (by omega) (by omega) (by rw [w1]; rfl) (by decide) ?_
    refine th_aload_n C dc_O_act_243 rfl rfl ?_
    refine th_iload_n C dc_O_act_244 rfl rfl ?_
    obtain ⟨n78, m78⟩ := th_nat (a := a.toInt) (by omega)
    refine tq_callVi C (o_O_begin l hl I a n78 hI m78 (by omega)) ok_O_179 cl_20 (show 0 < 1 from by omega) rfl (Nat.le_of_ble_eq_true rfl) dc_O_act_245 rfl (fun x79 I79 p79 => ?_)
    obtain ⟨hI79, p79⟩ := p79
    refine tq_if_ne (tgt := 442) C dc_O_act_248 (by decide) rfl (fun c80 => ?_) (fun c80 => ?_)
    · exact th_vret C hQ dc_O_act_442 (by decide) (by decide) ⟨_, rfl, rfl, (by first | exact hI79 | exact ro_mono hI79 (by omega) (by omega)), trivial⟩
    · refine th_aload_n C dc_O_act_251 rfl rfl ?_
      refine th_iload_n C dc_O_act_252 rfl rfl ?_
      refine th_iconst (v := 4) C dc_O_act_253 th_c_4 ?_
      refine tq_callVv C (o_O_error l hl I79 t ((4 : Int32)) tn hI79 htn (by have := th_l_4; omega) (by rw [(p79.resolve_right (fun q => absurd q (by omega))).2]; exact hs)) ok_O_160 cl_20 (show 0 < 1 from by omega) rfl (Nat.le_of_ble_eq_true rfl) dc_O_act_254 rfl (fun I81 p81 => ?_)
      obtain ⟨hI81, p81⟩ := p81
      try simp only [th_l_4] at p81
      refine th_goto (tgt := 442) C dc_O_act_257 (by decide) ?_
      exact th_vret C hQ dc_O_act_442 (by decide) (by decide) ⟨_, rfl, rfl, (by first | exact hI81 | exact ro_mono hI81 (by omega) (by omega)), trivial⟩
  · refine th_tableIn (tgt := 260) C dc_O_act_1 (by omega) (by omega) (by rw [w1]; rfl) (by decide) ?_
    refine th_aload_n C dc_O_act_260 rfl rfl ?_
    refine th_iload_n C dc_O_act_261 rfl rfl ?_
    refine th_iload_n C dc_O_act_262 rfl rfl ?_
    refine th_iload C dc_O_act_263 rfl ?_
    obtain ⟨n82, m82⟩ := th_nat (a := a.toInt) (by omega)
    refine tq_callVv C (o_O_join l hl I t a b tn n82 hI htn m82 (by omega) (by omega) (by omega) (by omega)) ok_O_182 cl_20 (show 0 < 1 from by omega) rfl (Nat.le_of_ble_eq_true rfl) dc_O_act_265 rfl (fun I83 p83 => ?_)
    obtain ⟨hI83, p83⟩ := p83
    refine th_goto (tgt := 442) C dc_O_act_268 (by decide) ?_
    exact th_vret C hQ dc_O_act_442 (by decide) (by decide) ⟨_, rfl, rfl, (by first | exact hI83 | exact ro_mono hI83 (by omega) (by omega)), trivial⟩
  · refine th_tableIn (tgt := 271) C dc_O_act_1 (by omega) (by omega) (by rw [w1]; rfl) (by decide) ?_
    refine th_aload_n C dc_O_act_271 rfl rfl ?_
    refine th_iload_n C dc_O_act_272 rfl rfl ?_
    obtain ⟨n84, m84⟩ := th_nat (a := a.toInt) (by omega)
    refine tq_callVi C (o_O_interrupted l hl I a n84 hI m84 (by omega)) ok_O_185 cl_20 (show 0 < 1 from by omega) rfl (Nat.le_of_ble_eq_true rfl) dc_O_act_273 rfl (fun x85 I85 p85 => ?_)
    obtain ⟨hI85, p85⟩ := p85
    refine th_istore (lv' := [(0, .inr (some (20, 0))), (1, .inl t), (2, .inl o), (3, .inl a), (4, .inl b), (6, .inl x85)]) C dc_O_act_276 (by decide) rfl ?_
    refine th_goto (tgt := 442) C dc_O_act_278 (by decide) ?_
    exact th_vret C hQ dc_O_act_442 (by decide) (by decide) ⟨_, rfl, rfl, (by first | exact hI85 | exact ro_mono hI85 (by omega) (by omega)), trivial⟩
  · refine th_tableIn (tgt := 281) C dc_O_act_1 (by omega) (by omega) (by rw [w1]; rfl) (by decide) ?_
    refine th_aload_n C dc_O_act_281 rfl rfl ?_
    refine tq_getR C dc_O_act_282 cl_20 fd_O_52 rfl (show 0 < 1 from by omega) rfl ?_
    refine th_iload_n C dc_O_act_285 rfl rfl ?_
    refine th_iload_n C dc_O_act_286 rfl rfl ?_
    refine tq_iastN C dc_O_act_287 rfl (fun _ => rfl) (show 0 < 1 from by omega) rfl htn (show tn < 5 from by omega) ?_
    refine th_gen (P := fun J => th_OI K sl Z J ∧ J = th_u I 35 0 tn a) ⟨ro_put hI rfl (show 0 ≤ a.toInt ∧ a.toInt ≤ 24 from by omega), rfl⟩ (fun I86 hI86 => ?_)
    obtain ⟨hI86, u86⟩ := hI86
    have e86 : a = I86 35 0 tn := by rw [u86, th_u_eq]
    have g86 : a.toInt = (I86 35 0 tn).toInt := by rw [← e86]
    refine th_goto (tgt := 442) C dc_O_act_288 (by decide) ?_
    exact th_vret C hQ dc_O_act_442 (by decide) (by decide) ⟨_, rfl, rfl, (by first | exact hI86 | exact ro_mono hI86 (by omega) (by omega)), trivial⟩
  · refine th_tableIn (tgt := 291) C dc_O_act_1 (by omega) (by omega) (by rw [w1]; rfl) (by decide) ?_
    refine th_aload_n C dc_O_act_291 rfl rfl ?_
    refine tq_getR C dc_O_act_292 cl_20 fd_O_40 rfl (show 0 < 1 from by omega) rfl ?_
    refine th_iload_n C dc_O_act_295 rfl rfl ?_
    refine tq_ialdN C dc_O_act_296 rfl (fun _ => rfl) (show 0 < 1 from by omega) rfl htn (show tn < 5 from by omega) (fun x87 e87 => ?_)
    have g87 : x87.toInt = (I 31 0 tn).toInt := by rw [e87]
    have r87 : 0 ≤ x87.toInt ∧ x87.toInt ≤ 4 := by rw [e87]; exact hI.1 31 0 tn
    refine th_iconst (v := 4) C dc_O_act_297 th_c_4 ?_
    refine tq_icmp_ne (tgt := 311) C dc_O_act_298 (by decide) rfl th_l_4 (fun c88 => ?_) (fun c88 => ?_)
    · refine th_aload_n C dc_O_act_311 rfl rfl ?_
      refine tq_getR C dc_O_act_312 cl_20 fd_O_34 rfl (show 0 < 1 from by omega) rfl ?_
      refine th_iconst (v := 4) C dc_O_act_315 th_c_4 ?_
      refine th_iload_n C dc_O_act_316 rfl rfl ?_
      refine tq_imul C dc_O_act_317 th_l_4 rfl (fun x89 e89 a89 => ?_)
      refine th_aload_n C dc_O_act_318 rfl rfl ?_
      refine tq_getR C dc_O_act_319 cl_20 fd_O_40 rfl (show 0 < 1 from by omega) rfl ?_
      refine th_iload_n C dc_O_act_322 rfl rfl ?_
      refine tq_ialdE C dc_O_act_323 rfl (fun _ => rfl) (show 0 < 1 from by omega) rfl htn (show tn < 5 from by omega) e87 ?_
      refine tq_iadd C dc_O_act_324 rfl rfl (fun x91 e91 a91 => ?_)
      refine th_iload_n C dc_O_act_325 rfl rfl ?_
      obtain ⟨n92, m92⟩ := th_nat (a := x91.toInt) (by omega)
      refine tq_iastN C dc_O_act_326 rfl (fun _ => rfl) (show 0 < 1 from by omega) rfl m92 (show n92 < 20 from by omega) ?_
      refine th_gen (P := fun J => th_OI K sl Z J ∧ J = th_u I 29 0 n92 a) ⟨ro_put hI rfl (show 0 ≤ a.toInt ∧ a.toInt ≤ 3 from by omega), rfl⟩ (fun I93 hI93 => ?_)
      obtain ⟨hI93, u93⟩ := hI93
      have e94 : x87 = I93 31 0 tn := by rw [u93, th_u_tag (by decide)]; exact e87
      have g94 : x87.toInt = (I93 31 0 tn).toInt := by rw [← e94]
      have e93 : a = I93 29 0 n92 := by rw [u93, th_u_eq]
      have g93 : a.toInt = (I93 29 0 n92).toInt := by rw [← e93]
      refine th_aload_n C dc_O_act_327 rfl rfl ?_
      refine tq_getR C dc_O_act_328 cl_20 fd_O_37 rfl (show 0 < 1 from by omega) rfl ?_
      refine th_iconst (v := 4) C dc_O_act_331 th_c_4 ?_
      refine th_iload_n C dc_O_act_332 rfl rfl ?_
      refine tq_imul C dc_O_act_333 th_l_4 rfl (fun x95 e95 a95 => ?_)
      refine th_aload_n C dc_O_act_334 rfl rfl ?_
      refine tq_getR C dc_O_act_335 cl_20 fd_O_40 rfl (show 0 < 1 from by omega) rfl ?_
      refine th_iload_n C dc_O_act_338 rfl rfl ?_
      refine th_dup2 C dc_O_act_339 ?_
      refine tq_ialdE C dc_O_act_340 rfl (fun _ => rfl) (show 0 < 1 from by omega) rfl htn (show tn < 5 from by omega) e94 ?_
      refine th_dup_x2 C dc_O_act_341 ?_
      refine th_iconst (v := 1) C dc_O_act_342 th_c_1 ?_
      refine tq_iadd C dc_O_act_343 rfl th_l_1 (fun x97 e97 a97 => ?_)
      refine tq_iastN C dc_O_act_344 rfl (fun _ => rfl) (show 0 < 1 from by omega) rfl htn (show tn < 5 from by omega) ?_
      refine th_gen (P := fun J => th_OI K sl Z J ∧ J = th_u I93 31 0 tn x97) ⟨ro_put hI93 rfl (show 0 ≤ x97.toInt ∧ x97.toInt ≤ 4 from by omega), rfl⟩ (fun I98 hI98 => ?_)
      obtain ⟨hI98, u98⟩ := hI98
      have e99 : a = I98 29 0 n92 := by rw [u98, th_u_tag (by decide)]; exact e93
      have g99 : a.toInt = (I98 29 0 n92).toInt := by rw [← e99]
      have e98 : x97 = I98 31 0 tn := by rw [u98, th_u_eq]
      have g98 : x97.toInt = (I98 31 0 tn).toInt := by rw [← e98]
      refine tq_iadd C dc_O_act_345 rfl rfl (fun x100 e100 a100 => ?_)
      refine th_iload C dc_O_act_346 rfl ?_
      obtain ⟨n101, m101⟩ := th_nat (a := x100.toInt) (by omega)
      refine tq_iastN C dc_O_act_348 rfl (fun _ => rfl) (show 0 < 1 from by omega) rfl m101 (show n101 < 20 from by omega) ?_
      refine th_gen (P := fun J => th_OI K sl Z J ∧ J = th_u I98 30 0 n101 b) ⟨ro_put hI98 rfl trivial, rfl⟩ (fun I102 hI102 => ?_)
      obtain ⟨hI102, u102⟩ := hI102
      have e103 : a = I102 29 0 n92 := by rw [u102, th_u_tag (by decide)]; exact e99
      have g103 : a.toInt = (I102 29 0 n92).toInt := by rw [← e103]
      have e104 : x97 = I102 31 0 tn := by rw [u102, th_u_tag (by decide)]; exact e98
      have g104 : x97.toInt = (I102 31 0 tn).toInt := by rw [← e104]
      have e102 : b = I102 30 0 n101 := by rw [u102, th_u_eq]
      have g102 : b.toInt = (I102 30 0 n101).toInt := by rw [← e102]
      refine th_goto (tgt := 442) C dc_O_act_349 (by decide) ?_
      exact th_vret C hQ dc_O_act_442 (by decide) (by decide) ⟨_, rfl, rfl, (by first | exact hI102 | exact ro_mono hI102 (by omega) (by omega)), trivial⟩
    · refine th_aload_n C dc_O_act_301 rfl rfl ?_
      refine th_iload_n C dc_O_act_302 rfl rfl ?_
      refine th_bipush (v := 6) C dc_O_act_303 th_b_6 ?_
      refine tq_callVv C (o_O_error l hl I t ((6 : Int32)) tn hI htn (by have := th_l_6; omega) (by have := th_l_6; omega)) ok_O_160 cl_20 (show 0 < 1 from by omega) rfl (Nat.le_of_ble_eq_true rfl) dc_O_act_305 rfl (fun I105 p105 => ?_)
      obtain ⟨hI105, p105⟩ := p105
      try simp only [th_l_6] at p105
      refine th_goto (tgt := 442) C dc_O_act_308 (by decide) ?_
      exact th_vret C hQ dc_O_act_442 (by decide) (by decide) ⟨_, rfl, rfl, (by first | exact hI105 | exact ro_mono hI105 (by omega) (by omega)), trivial⟩
  · refine th_tableIn (tgt := 352) C dc_O_act_1 (by omega) (by omega) (by rw [w1]; rfl) (by decide) ?_
    refine th_aload_n C dc_O_act_352 rfl rfl ?_
    refine tq_getR C dc_O_act_353 cl_20 fd_O_46 rfl (show 0 < 1 from by omega) rfl ?_
    refine th_iload_n C dc_O_act_356 rfl rfl ?_
    refine th_iload_n C dc_O_act_357 rfl rfl ?_
    refine tq_iastN C dc_O_act_358 rfl (fun _ => rfl) (show 0 < 1 from by omega) rfl htn (show tn < 5 from by omega) ?_
    refine th_gen (P := fun J => th_OI K sl Z J ∧ J = th_u I 33 0 tn a) ⟨ro_put hI rfl (show 0 ≤ a.toInt ∧ a.toInt ≤ 24 from by omega), rfl⟩ (fun I106 hI106 => ?_)
    obtain ⟨hI106, u106⟩ := hI106
    have e106 : a = I106 33 0 tn := by rw [u106, th_u_eq]
    have g106 : a.toInt = (I106 33 0 tn).toInt := by rw [← e106]
    refine th_goto (tgt := 442) C dc_O_act_359 (by decide) ?_
    exact th_vret C hQ dc_O_act_442 (by decide) (by decide) ⟨_, rfl, rfl, (by first | exact hI106 | exact ro_mono hI106 (by omega) (by omega)), trivial⟩
  · refine th_tableIn (tgt := 362) C dc_O_act_1 (by omega) (by omega) (by rw [w1]; rfl) (by decide) ?_
    refine th_aload_n C dc_O_act_362 rfl rfl ?_
    refine th_iload_n C dc_O_act_363 rfl rfl ?_
    refine th_iload_n C dc_O_act_364 rfl rfl ?_
    refine tq_callVp C (o_O_get l hl I t a hI (by omega) (by omega)) ok_O_136 cl_20 (show 0 < 1 from by omega) rfl (Nat.le_of_ble_eq_true rfl) dc_O_act_365 rfl (fun x107 p107 => ?_)
    refine tq_if_ne (tgt := 442) C dc_O_act_368 (by decide) rfl (fun c108 => ?_) (fun c108 => ?_)
    · exact th_vret C hQ dc_O_act_442 (by decide) (by decide) ⟨_, rfl, rfl, (by first | exact hI | exact ro_mono hI (by omega) (by omega)), trivial⟩
    · refine th_aload_n C dc_O_act_371 rfl rfl ?_
      refine tq_getR C dc_O_act_372 cl_20 fd_O_46 rfl (show 0 < 1 from by omega) rfl ?_
      refine th_iload_n C dc_O_act_375 rfl rfl ?_
      refine th_iload C dc_O_act_376 rfl ?_
      refine tq_iastN C dc_O_act_378 rfl (fun _ => rfl) (show 0 < 1 from by omega) rfl htn (show tn < 5 from by omega) ?_
      refine th_gen (P := fun J => th_OI K sl Z J ∧ J = th_u I 33 0 tn b) ⟨ro_put hI rfl (show 0 ≤ b.toInt ∧ b.toInt ≤ 24 from by omega), rfl⟩ (fun I109 hI109 => ?_)
      obtain ⟨hI109, u109⟩ := hI109
      have e109 : b = I109 33 0 tn := by rw [u109, th_u_eq]
      have g109 : b.toInt = (I109 33 0 tn).toInt := by rw [← e109]
      refine th_goto (tgt := 442) C dc_O_act_379 (by decide) ?_
      exact th_vret C hQ dc_O_act_442 (by decide) (by decide) ⟨_, rfl, rfl, (by first | exact hI109 | exact ro_mono hI109 (by omega) (by omega)), trivial⟩
  · refine th_tableIn (tgt := 382) C dc_O_act_1 (by omega) (by omega) (by rw [w1]; rfl) (by decide) ?_
    refine th_aload_n C dc_O_act_382 rfl rfl ?_
    refine tq_getR C dc_O_act_383 cl_20 fd_O_107 rfl (show 0 < 1 from by omega) rfl ?_
    refine th_iconst (v := 0) C dc_O_act_386 th_c_0 ?_
    refine tq_ialdN C dc_O_act_387 rfl (fun _ => rfl) (show 0 < 1 from by omega) th_l_0 (by decide) (show 0 < 8 from by omega) (fun x110 e110 => ?_)
    have g110 : x110.toInt = (I 53 0 0).toInt := by rw [e110]
    have r110 : 0 ≤ x110.toInt ∧ x110.toInt ≤ K := by rw [e110]; exact hI.1 53 0 0
    refine th_bipush (v := 40) C dc_O_act_388 th_b_40 ?_
    refine tq_icmp_ge (tgt := 410) C dc_O_act_390 (by decide) rfl th_l_40 (fun c111 => ?_) (fun c111 => ?_)
    · refine th_aload_n C dc_O_act_410 rfl rfl ?_
      refine tq_getR C dc_O_act_411 cl_20 fd_O_107 rfl (show 0 < 1 from by omega) rfl ?_
      refine th_iconst (v := 0) C dc_O_act_414 th_c_0 ?_
      refine th_dup2 C dc_O_act_415 ?_
      refine tq_ialdE C dc_O_act_416 rfl (fun _ => rfl) (show 0 < 1 from by omega) th_l_0 (by decide) (show 0 < 8 from by omega) e110 ?_
      refine th_iconst (v := 1) C dc_O_act_417 th_c_1 ?_
      refine tq_iadd C dc_O_act_418 rfl th_l_1 (fun x113 e113 a113 => ?_)
      refine tq_iastN C dc_O_act_419 rfl (fun _ => rfl) (show 0 < 1 from by omega) th_l_0 (by decide) (show 0 < 8 from by omega) ?_
      refine th_gen (P := fun J => th_OI (K + 1) sl Z J ∧ J = th_u I 53 0 0 x113) ⟨ro_put (ro_mono hI (by omega) (by omega)) rfl (show 0 ≤ x113.toInt ∧ x113.toInt ≤ K + 1 from by omega), rfl⟩ (fun I114 hI114 => ?_)
      obtain ⟨hI114, u114⟩ := hI114
      have e114 : x113 = I114 53 0 0 := by rw [u114, th_u_eq]
      have g114 : x113.toInt = (I114 53 0 0).toInt := by rw [← e114]
      refine th_goto (tgt := 442) C dc_O_act_420 (by decide) ?_
      exact th_vret C hQ dc_O_act_442 (by decide) (by decide) ⟨_, rfl, rfl, (by first | exact hI114 | exact ro_mono hI114 (by omega) (by omega)), trivial⟩
    · refine th_aload_n C dc_O_act_393 rfl rfl ?_
      refine tq_getR C dc_O_act_394 cl_20 fd_O_104 rfl (show 0 < 1 from by omega) rfl ?_
      refine th_aload_n C dc_O_act_397 rfl rfl ?_
      refine tq_getR C dc_O_act_398 cl_20 fd_O_107 rfl (show 0 < 1 from by omega) rfl ?_
      refine th_iconst (v := 0) C dc_O_act_401 th_c_0 ?_
      refine tq_ialdE C dc_O_act_402 rfl (fun _ => rfl) (show 0 < 1 from by omega) th_l_0 (by decide) (show 0 < 8 from by omega) e110 ?_
      refine th_aload_n C dc_O_act_403 rfl rfl ?_
      refine th_iload_n C dc_O_act_404 rfl rfl ?_
      refine th_iload_n C dc_O_act_405 rfl rfl ?_
      refine tq_callVp C (o_O_get l hl I t a hI (by omega) (by omega)) ok_O_136 cl_20 (show 0 < 1 from by omega) rfl (Nat.le_of_ble_eq_true rfl) dc_O_act_406 rfl (fun x116 p116 => ?_)
      obtain ⟨n117, m117⟩ := th_nat (a := x110.toInt) (by omega)
      refine tq_iastN C dc_O_act_409 rfl (fun _ => rfl) (show 0 < 1 from by omega) rfl m117 (show n117 < 40 from by omega) ?_
      refine th_gen (P := fun J => th_OI K sl Z J ∧ J = th_u I 52 0 n117 x116) ⟨ro_put hI rfl trivial, rfl⟩ (fun I118 hI118 => ?_)
      obtain ⟨hI118, u118⟩ := hI118
      have e119 : x110 = I118 53 0 0 := by rw [u118, th_u_tag (by decide)]; exact e110
      have g119 : x110.toInt = (I118 53 0 0).toInt := by rw [← e119]
      have e118 : x116 = I118 52 0 n117 := by rw [u118, th_u_eq]
      have g118 : x116.toInt = (I118 52 0 n117).toInt := by rw [← e118]
      refine th_aload_n C dc_O_act_410 rfl rfl ?_
      refine tq_getR C dc_O_act_411 cl_20 fd_O_107 rfl (show 0 < 1 from by omega) rfl ?_
      refine th_iconst (v := 0) C dc_O_act_414 th_c_0 ?_
      refine th_dup2 C dc_O_act_415 ?_
      refine tq_ialdE C dc_O_act_416 rfl (fun _ => rfl) (show 0 < 1 from by omega) th_l_0 (by decide) (show 0 < 8 from by omega) e119 ?_
      refine th_iconst (v := 1) C dc_O_act_417 th_c_1 ?_
      refine tq_iadd C dc_O_act_418 rfl th_l_1 (fun x121 e121 a121 => ?_)
      refine tq_iastN C dc_O_act_419 rfl (fun _ => rfl) (show 0 < 1 from by omega) th_l_0 (by decide) (show 0 < 8 from by omega) ?_
      refine th_gen (P := fun J => th_OI (K + 1) sl Z J ∧ J = th_u I118 53 0 0 x121) ⟨ro_put (ro_mono hI118 (by omega) (by omega)) rfl (show 0 ≤ x121.toInt ∧ x121.toInt ≤ K + 1 from by omega), rfl⟩ (fun I122 hI122 => ?_)
      obtain ⟨hI122, u122⟩ := hI122
      have e123 : x116 = I122 52 0 n117 := by rw [u122, th_u_tag (by decide)]; exact e118
      have g123 : x116.toInt = (I122 52 0 n117).toInt := by rw [← e123]
      have e122 : x121 = I122 53 0 0 := by rw [u122, th_u_eq]
      have g122 : x121.toInt = (I122 53 0 0).toInt := by rw [← e122]
      refine th_goto (tgt := 442) C dc_O_act_420 (by decide) ?_
      exact th_vret C hQ dc_O_act_442 (by decide) (by decide) ⟨_, rfl, rfl, (by first | exact hI122 | exact ro_mono hI122 (by omega) (by omega)), trivial⟩
  · refine th_tableIn (tgt := 423) C dc_O_act_1 (by omega) (by omega) (by rw [w1]; rfl) (by decide) ?_
    refine th_aload_n C dc_O_act_423 rfl rfl ?_
    refine th_iload_n C dc_O_act_424 rfl rfl ?_
    refine th_aload_n C dc_O_act_425 rfl rfl ?_
    refine th_iload_n C dc_O_act_426 rfl rfl ?_
    refine th_iload_n C dc_O_act_427 rfl rfl ?_
    refine tq_callVp C (o_O_get l hl I t a hI (by omega) (by omega)) ok_O_136 cl_20 (show 0 < 1 from by omega) rfl (Nat.le_of_ble_eq_true rfl) dc_O_act_428 rfl (fun x124 p124 => ?_)
    refine tq_callVv C (o_O_end l hl I t x124 tn hI htn (by omega) (by omega)) ok_O_147 cl_20 (show 0 < 1 from by omega) rfl (Nat.le_of_ble_eq_true rfl) dc_O_act_431 rfl (fun I125 p125 => ?_)
    obtain ⟨hI125, p125⟩ := p125
    refine th_goto (tgt := 442) C dc_O_act_434 (by decide) ?_
    exact th_vret C hQ dc_O_act_442 (by decide) (by decide) ⟨_, rfl, rfl, (by first | exact hI125 | exact ro_mono hI125 (by omega) (by omega)), trivial⟩
  · refine th_tableOut (tgt := 437) C dc_O_act_1 w1 (by decide) ?_
    refine th_aload_n C dc_O_act_437 rfl rfl ?_
    refine th_iconst (v := 1) C dc_O_act_438 th_c_1 ?_
    refine tq_putZ C dc_O_act_439 cl_20 fd_O_188 rfl (show 0 < 1 from by omega) rfl rfl rfl rfl ?_
    refine th_gen (P := fun J => th_OI K sl Z J ∧ J = th_u I 20 0 35 ((1 : Int32))) ⟨ro_put hI rfl trivial, rfl⟩ (fun I126 hI126 => ?_)
    obtain ⟨hI126, u126⟩ := hI126
    have e126 : (1 : Int32) = I126 20 0 35 := by rw [u126, th_u_eq]
    have g126 : 1 = (I126 20 0 35).toInt := by rw [← e126]; exact th_l_1.symm
    exact th_vret C hQ dc_O_act_442 (by decide) (by decide) ⟨_, rfl, rfl, (by first | exact hI126 | exact ro_mono hI126 (by omega) (by omega)), trivial⟩

