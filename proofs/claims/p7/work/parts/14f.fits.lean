set_option maxRecDepth 100000 in
set_option maxHeartbeats 4000000 in
theorem o_O_fits (l : Launch) (hl : l.stackTraces = false) (I : th_I) (o : Int32) (a : Int32) (b : Int32) : th_F l yn_O_fits cb_O_fits 3 (some .boolean) { frames := 1, cells := 0, slots := 0, locals := 22 } [.inl o, .inl a, .inl b] (th_m I) (th_rp I (fun x => x.toInt = 1 ∧ th_valid o.toInt a.toInt b.toInt ∨ x.toInt = 0 ∧ ¬ th_valid o.toInt a.toInt b.toInt)) := by
  refine th_of hl (by decide +kernel) (Nat.le_of_ble_eq_true rfl) (fun z C hQ hN => ?_)
  show th_G l z 3 0 [(0, .inl o), (1, .inl a), (2, .inl b)] [] (th_m I) 0 0
  refine th_iload_n C dc_O_fits_0 rfl rfl ?_
  have w1 : o.toInt = 0 ∨ o.toInt = 1 ∨ o.toInt = 2 ∨ o.toInt = 3 ∨ o.toInt = 4 ∨ o.toInt = 5 ∨ o.toInt = 6 ∨ o.toInt = 7 ∨ o.toInt = 8 ∨ o.toInt = 9 ∨ o.toInt = 10 ∨ o.toInt = 11 ∨ o.toInt = 12 ∨ o.toInt = 13 ∨ o.toInt = 14 ∨ o.toInt = 15 ∨ o.toInt = 16 ∨ o.toInt = 17 ∨ o.toInt = 18 ∨ o.toInt = 19 ∨ (o.toInt < 0 ∨ 19 < o.toInt) := by omega
  rcases w1 with w1 | w1 | w1 | w1 | w1 | w1 | w1 | w1 | w1 | w1 | w1 | w1 | w1 | w1 | w1 | w1 | w1 | w1 | w1 | w1 | w1
  · refine th_tableIn (tgt := 96) C dc_O_fits_1 (by omega) (by omega) (by rw [w1]; rfl) (by decide) ?_
    refine th_iload_n C dc_O_fits_96 rfl rfl ?_
    refine th_iconst (v := 0) C dc_O_fits_97 th_c_0 ?_
    refine th_iconst (v := 3) C dc_O_fits_98 th_c_3 ?_
    refine tq_callSp C (o_O_is l hl I a ((0 : Int32)) ((3 : Int32))) ok_O_117 rfl (Nat.le_of_ble_eq_true rfl) dc_O_fits_99 rfl (fun x2 p2 => ?_)
    try simp only [th_l_0, th_l_3] at p2
    exact th_zret C hQ dc_O_fits_102 (th_zn (by omega)) (by decide) (by decide) ⟨_, rfl, rfl, (by (try dsimp only); unfold th_valid; first | omega | (dsimp only; omega))⟩
  · refine th_tableIn (tgt := 96) C dc_O_fits_1 (by omega) (by omega) (by rw [w1]; rfl) (by decide) ?_
    refine th_iload_n C dc_O_fits_96 rfl rfl ?_
    refine th_iconst (v := 0) C dc_O_fits_97 th_c_0 ?_
    refine th_iconst (v := 3) C dc_O_fits_98 th_c_3 ?_
    refine tq_callSp C (o_O_is l hl I a ((0 : Int32)) ((3 : Int32))) ok_O_117 rfl (Nat.le_of_ble_eq_true rfl) dc_O_fits_99 rfl (fun x3 p3 => ?_)
    try simp only [th_l_0, th_l_3] at p3
    exact th_zret C hQ dc_O_fits_102 (th_zn (by omega)) (by decide) (by decide) ⟨_, rfl, rfl, (by (try dsimp only); unfold th_valid; first | omega | (dsimp only; omega))⟩
  · refine th_tableIn (tgt := 103) C dc_O_fits_1 (by omega) (by omega) (by rw [w1]; rfl) (by decide) ?_
    refine th_iload_n C dc_O_fits_103 rfl rfl ?_
    refine th_iconst (v := 0) C dc_O_fits_104 th_c_0 ?_
    refine th_iconst (v := 3) C dc_O_fits_105 th_c_3 ?_
    refine tq_callSp C (o_O_is l hl I a ((0 : Int32)) ((3 : Int32))) ok_O_117 rfl (Nat.le_of_ble_eq_true rfl) dc_O_fits_106 rfl (fun x4 p4 => ?_)
    try simp only [th_l_0, th_l_3] at p4
    refine tq_if_eq (tgt := 125) C dc_O_fits_109 (by decide) rfl (fun c5 => ?_) (fun c5 => ?_)
    · refine th_iconst (v := 0) C dc_O_fits_125 th_c_0 ?_
      exact th_zret C hQ dc_O_fits_126 (rfl) (by decide) (by decide) ⟨_, rfl, rfl, (by have := th_l_0; (try dsimp only); unfold th_valid; first | omega | (dsimp only; omega))⟩
    · refine th_iload_n C dc_O_fits_112 rfl rfl ?_
      refine th_iconst (v := 0) C dc_O_fits_113 th_c_0 ?_
      refine th_iconst (v := 3) C dc_O_fits_114 th_c_3 ?_
      refine tq_callSp C (o_O_is l hl I b ((0 : Int32)) ((3 : Int32))) ok_O_117 rfl (Nat.le_of_ble_eq_true rfl) dc_O_fits_115 rfl (fun x6 p6 => ?_)
      try simp only [th_l_0, th_l_3] at p6
      refine tq_if_eq (tgt := 125) C dc_O_fits_118 (by decide) rfl (fun c7 => ?_) (fun c7 => ?_)
      · refine th_iconst (v := 0) C dc_O_fits_125 th_c_0 ?_
        exact th_zret C hQ dc_O_fits_126 (rfl) (by decide) (by decide) ⟨_, rfl, rfl, (by have := th_l_0; (try dsimp only); unfold th_valid; first | omega | (dsimp only; omega))⟩
      · refine th_iconst (v := 1) C dc_O_fits_121 th_c_1 ?_
        refine th_goto (tgt := 126) C dc_O_fits_122 (by decide) ?_
        exact th_zret C hQ dc_O_fits_126 (rfl) (by decide) (by decide) ⟨_, rfl, rfl, (by have := th_l_1; (try dsimp only); unfold th_valid; first | omega | (dsimp only; omega))⟩
  · refine th_tableIn (tgt := 96) C dc_O_fits_1 (by omega) (by omega) (by rw [w1]; rfl) (by decide) ?_
    refine th_iload_n C dc_O_fits_96 rfl rfl ?_
    refine th_iconst (v := 0) C dc_O_fits_97 th_c_0 ?_
    refine th_iconst (v := 3) C dc_O_fits_98 th_c_3 ?_
    refine tq_callSp C (o_O_is l hl I a ((0 : Int32)) ((3 : Int32))) ok_O_117 rfl (Nat.le_of_ble_eq_true rfl) dc_O_fits_99 rfl (fun x8 p8 => ?_)
    try simp only [th_l_0, th_l_3] at p8
    exact th_zret C hQ dc_O_fits_102 (th_zn (by omega)) (by decide) (by decide) ⟨_, rfl, rfl, (by (try dsimp only); unfold th_valid; first | omega | (dsimp only; omega))⟩
  · refine th_tableIn (tgt := 96) C dc_O_fits_1 (by omega) (by omega) (by rw [w1]; rfl) (by decide) ?_
    refine th_iload_n C dc_O_fits_96 rfl rfl ?_
    refine th_iconst (v := 0) C dc_O_fits_97 th_c_0 ?_
    refine th_iconst (v := 3) C dc_O_fits_98 th_c_3 ?_
    refine tq_callSp C (o_O_is l hl I a ((0 : Int32)) ((3 : Int32))) ok_O_117 rfl (Nat.le_of_ble_eq_true rfl) dc_O_fits_99 rfl (fun x9 p9 => ?_)
    try simp only [th_l_0, th_l_3] at p9
    exact th_zret C hQ dc_O_fits_102 (th_zn (by omega)) (by decide) (by decide) ⟨_, rfl, rfl, (by (try dsimp only); unfold th_valid; first | omega | (dsimp only; omega))⟩
  · refine th_tableIn (tgt := 127) C dc_O_fits_1 (by omega) (by omega) (by rw [w1]; rfl) (by decide) ?_
    refine th_iload_n C dc_O_fits_127 rfl rfl ?_
    refine th_iconst (v := 0) C dc_O_fits_128 th_c_0 ?_
    refine th_iconst (v := 2) C dc_O_fits_129 th_c_2 ?_
    refine tq_callSp C (o_O_is l hl I a ((0 : Int32)) ((2 : Int32))) ok_O_117 rfl (Nat.le_of_ble_eq_true rfl) dc_O_fits_130 rfl (fun x10 p10 => ?_)
    try simp only [th_l_0, th_l_2] at p10
    exact th_zret C hQ dc_O_fits_133 (th_zn (by omega)) (by decide) (by decide) ⟨_, rfl, rfl, (by (try dsimp only); unfold th_valid; first | omega | (dsimp only; omega))⟩
  · refine th_tableIn (tgt := 127) C dc_O_fits_1 (by omega) (by omega) (by rw [w1]; rfl) (by decide) ?_
    refine th_iload_n C dc_O_fits_127 rfl rfl ?_
    refine th_iconst (v := 0) C dc_O_fits_128 th_c_0 ?_
    refine th_iconst (v := 2) C dc_O_fits_129 th_c_2 ?_
    refine tq_callSp C (o_O_is l hl I a ((0 : Int32)) ((2 : Int32))) ok_O_117 rfl (Nat.le_of_ble_eq_true rfl) dc_O_fits_130 rfl (fun x11 p11 => ?_)
    try simp only [th_l_0, th_l_2] at p11
    exact th_zret C hQ dc_O_fits_133 (th_zn (by omega)) (by decide) (by decide) ⟨_, rfl, rfl, (by (try dsimp only); unfold th_valid; first | omega | (dsimp only; omega))⟩
  · refine th_tableIn (tgt := 134) C dc_O_fits_1 (by omega) (by omega) (by rw [w1]; rfl) (by decide) ?_
    refine th_iload_n C dc_O_fits_134 rfl rfl ?_
    refine th_iconst (v := 0) C dc_O_fits_135 th_c_0 ?_
    refine th_iconst (v := 2) C dc_O_fits_136 th_c_2 ?_
    refine tq_callSp C (o_O_is l hl I a ((0 : Int32)) ((2 : Int32))) ok_O_117 rfl (Nat.le_of_ble_eq_true rfl) dc_O_fits_137 rfl (fun x12 p12 => ?_)
    try simp only [th_l_0, th_l_2] at p12
    refine tq_if_eq (tgt := 156) C dc_O_fits_140 (by decide) rfl (fun c13 => ?_) (fun c13 => ?_)
    · refine th_iconst (v := 0) C dc_O_fits_156 th_c_0 ?_
      exact th_zret C hQ dc_O_fits_157 (rfl) (by decide) (by decide) ⟨_, rfl, rfl, (by have := th_l_0; (try dsimp only); unfold th_valid; first | omega | (dsimp only; omega))⟩
    · refine th_iload_n C dc_O_fits_143 rfl rfl ?_
      refine th_iconst (v := 0) C dc_O_fits_144 th_c_0 ?_
      refine th_iconst (v := 3) C dc_O_fits_145 th_c_3 ?_
      refine tq_callSp C (o_O_is l hl I b ((0 : Int32)) ((3 : Int32))) ok_O_117 rfl (Nat.le_of_ble_eq_true rfl) dc_O_fits_146 rfl (fun x14 p14 => ?_)
      try simp only [th_l_0, th_l_3] at p14
      refine tq_if_eq (tgt := 156) C dc_O_fits_149 (by decide) rfl (fun c15 => ?_) (fun c15 => ?_)
      · refine th_iconst (v := 0) C dc_O_fits_156 th_c_0 ?_
        exact th_zret C hQ dc_O_fits_157 (rfl) (by decide) (by decide) ⟨_, rfl, rfl, (by have := th_l_0; (try dsimp only); unfold th_valid; first | omega | (dsimp only; omega))⟩
      · refine th_iconst (v := 1) C dc_O_fits_152 th_c_1 ?_
        refine th_goto (tgt := 157) C dc_O_fits_153 (by decide) ?_
        exact th_zret C hQ dc_O_fits_157 (rfl) (by decide) (by decide) ⟨_, rfl, rfl, (by have := th_l_1; (try dsimp only); unfold th_valid; first | omega | (dsimp only; omega))⟩
  · refine th_tableIn (tgt := 158) C dc_O_fits_1 (by omega) (by omega) (by rw [w1]; rfl) (by decide) ?_
    refine th_iload_n C dc_O_fits_158 rfl rfl ?_
    refine th_iconst (v := 0) C dc_O_fits_159 th_c_0 ?_
    refine th_iconst (v := 2) C dc_O_fits_160 th_c_2 ?_
    refine tq_callSp C (o_O_is l hl I a ((0 : Int32)) ((2 : Int32))) ok_O_117 rfl (Nat.le_of_ble_eq_true rfl) dc_O_fits_161 rfl (fun x16 p16 => ?_)
    try simp only [th_l_0, th_l_2] at p16
    refine tq_if_eq (tgt := 180) C dc_O_fits_164 (by decide) rfl (fun c17 => ?_) (fun c17 => ?_)
    · refine th_iconst (v := 0) C dc_O_fits_180 th_c_0 ?_
      exact th_zret C hQ dc_O_fits_181 (rfl) (by decide) (by decide) ⟨_, rfl, rfl, (by have := th_l_0; (try dsimp only); unfold th_valid; first | omega | (dsimp only; omega))⟩
    · refine th_iload_n C dc_O_fits_167 rfl rfl ?_
      refine th_iconst (v := 0) C dc_O_fits_168 th_c_0 ?_
      refine th_iconst (v := 2) C dc_O_fits_169 th_c_2 ?_
      refine tq_callSp C (o_O_is l hl I b ((0 : Int32)) ((2 : Int32))) ok_O_117 rfl (Nat.le_of_ble_eq_true rfl) dc_O_fits_170 rfl (fun x18 p18 => ?_)
      try simp only [th_l_0, th_l_2] at p18
      refine tq_if_eq (tgt := 180) C dc_O_fits_173 (by decide) rfl (fun c19 => ?_) (fun c19 => ?_)
      · refine th_iconst (v := 0) C dc_O_fits_180 th_c_0 ?_
        exact th_zret C hQ dc_O_fits_181 (rfl) (by decide) (by decide) ⟨_, rfl, rfl, (by have := th_l_0; (try dsimp only); unfold th_valid; first | omega | (dsimp only; omega))⟩
      · refine th_iconst (v := 1) C dc_O_fits_176 th_c_1 ?_
        refine th_goto (tgt := 181) C dc_O_fits_177 (by decide) ?_
        exact th_zret C hQ dc_O_fits_181 (rfl) (by decide) (by decide) ⟨_, rfl, rfl, (by have := th_l_1; (try dsimp only); unfold th_valid; first | omega | (dsimp only; omega))⟩
  · refine th_tableIn (tgt := 127) C dc_O_fits_1 (by omega) (by omega) (by rw [w1]; rfl) (by decide) ?_
    refine th_iload_n C dc_O_fits_127 rfl rfl ?_
    refine th_iconst (v := 0) C dc_O_fits_128 th_c_0 ?_
    refine th_iconst (v := 2) C dc_O_fits_129 th_c_2 ?_
    refine tq_callSp C (o_O_is l hl I a ((0 : Int32)) ((2 : Int32))) ok_O_117 rfl (Nat.le_of_ble_eq_true rfl) dc_O_fits_130 rfl (fun x20 p20 => ?_)
    try simp only [th_l_0, th_l_2] at p20
    exact th_zret C hQ dc_O_fits_133 (th_zn (by omega)) (by decide) (by decide) ⟨_, rfl, rfl, (by (try dsimp only); unfold th_valid; first | omega | (dsimp only; omega))⟩
  · refine th_tableIn (tgt := 127) C dc_O_fits_1 (by omega) (by omega) (by rw [w1]; rfl) (by decide) ?_
    refine th_iload_n C dc_O_fits_127 rfl rfl ?_
    refine th_iconst (v := 0) C dc_O_fits_128 th_c_0 ?_
    refine th_iconst (v := 2) C dc_O_fits_129 th_c_2 ?_
    refine tq_callSp C (o_O_is l hl I a ((0 : Int32)) ((2 : Int32))) ok_O_117 rfl (Nat.le_of_ble_eq_true rfl) dc_O_fits_130 rfl (fun x21 p21 => ?_)
    try simp only [th_l_0, th_l_2] at p21
    exact th_zret C hQ dc_O_fits_133 (th_zn (by omega)) (by decide) (by decide) ⟨_, rfl, rfl, (by (try dsimp only); unfold th_valid; first | omega | (dsimp only; omega))⟩
  · refine th_tableIn (tgt := 182) C dc_O_fits_1 (by omega) (by omega) (by rw [w1]; rfl) (by decide) ?_
    refine th_iload_n C dc_O_fits_182 rfl rfl ?_
    refine th_iconst (v := 0) C dc_O_fits_183 th_c_0 ?_
    refine th_iconst (v := 4) C dc_O_fits_184 th_c_4 ?_
    refine tq_callSp C (o_O_is l hl I a ((0 : Int32)) ((4 : Int32))) ok_O_117 rfl (Nat.le_of_ble_eq_true rfl) dc_O_fits_185 rfl (fun x22 p22 => ?_)
    try simp only [th_l_0, th_l_4] at p22
    exact th_zret C hQ dc_O_fits_188 (th_zn (by omega)) (by decide) (by decide) ⟨_, rfl, rfl, (by (try dsimp only); unfold th_valid; first | omega | (dsimp only; omega))⟩
  · refine th_tableIn (tgt := 189) C dc_O_fits_1 (by omega) (by omega) (by rw [w1]; rfl) (by decide) ?_
    refine th_iload_n C dc_O_fits_189 rfl rfl ?_
    refine th_iconst (v := 0) C dc_O_fits_190 th_c_0 ?_
    refine th_iconst (v := 4) C dc_O_fits_191 th_c_4 ?_
    refine tq_callSp C (o_O_is l hl I a ((0 : Int32)) ((4 : Int32))) ok_O_117 rfl (Nat.le_of_ble_eq_true rfl) dc_O_fits_192 rfl (fun x23 p23 => ?_)
    try simp only [th_l_0, th_l_4] at p23
    refine tq_if_eq (tgt := 211) C dc_O_fits_195 (by decide) rfl (fun c24 => ?_) (fun c24 => ?_)
    · refine th_iconst (v := 0) C dc_O_fits_211 th_c_0 ?_
      exact th_zret C hQ dc_O_fits_212 (rfl) (by decide) (by decide) ⟨_, rfl, rfl, (by have := th_l_0; (try dsimp only); unfold th_valid; first | omega | (dsimp only; omega))⟩
    · refine th_iload_n C dc_O_fits_198 rfl rfl ?_
      refine th_iconst (v := 0) C dc_O_fits_199 th_c_0 ?_
      refine th_iconst (v := 3) C dc_O_fits_200 th_c_3 ?_
      refine tq_callSp C (o_O_is l hl I b ((0 : Int32)) ((3 : Int32))) ok_O_117 rfl (Nat.le_of_ble_eq_true rfl) dc_O_fits_201 rfl (fun x25 p25 => ?_)
      try simp only [th_l_0, th_l_3] at p25
      refine tq_if_eq (tgt := 211) C dc_O_fits_204 (by decide) rfl (fun c26 => ?_) (fun c26 => ?_)
      · refine th_iconst (v := 0) C dc_O_fits_211 th_c_0 ?_
        exact th_zret C hQ dc_O_fits_212 (rfl) (by decide) (by decide) ⟨_, rfl, rfl, (by have := th_l_0; (try dsimp only); unfold th_valid; first | omega | (dsimp only; omega))⟩
      · refine th_iconst (v := 1) C dc_O_fits_207 th_c_1 ?_
        refine th_goto (tgt := 212) C dc_O_fits_208 (by decide) ?_
        exact th_zret C hQ dc_O_fits_212 (rfl) (by decide) (by decide) ⟨_, rfl, rfl, (by have := th_l_1; (try dsimp only); unfold th_valid; first | omega | (dsimp only; omega))⟩
  · refine th_tableIn (tgt := 182) C dc_O_fits_1 (by omega) (by omega) (by rw [w1]; rfl) (by decide) ?_
    refine th_iload_n C dc_O_fits_182 rfl rfl ?_
    refine th_iconst (v := 0) C dc_O_fits_183 th_c_0 ?_
    refine th_iconst (v := 4) C dc_O_fits_184 th_c_4 ?_
    refine tq_callSp C (o_O_is l hl I a ((0 : Int32)) ((4 : Int32))) ok_O_117 rfl (Nat.le_of_ble_eq_true rfl) dc_O_fits_185 rfl (fun x27 p27 => ?_)
    try simp only [th_l_0, th_l_4] at p27
    exact th_zret C hQ dc_O_fits_188 (th_zn (by omega)) (by decide) (by decide) ⟨_, rfl, rfl, (by (try dsimp only); unfold th_valid; first | omega | (dsimp only; omega))⟩
  · refine th_tableIn (tgt := 213) C dc_O_fits_1 (by omega) (by omega) (by rw [w1]; rfl) (by decide) ?_
    refine th_iload_n C dc_O_fits_213 rfl rfl ?_
    refine th_iconst (v := 0) C dc_O_fits_214 th_c_0 ?_
    refine th_bipush (v := 24) C dc_O_fits_215 th_b_24 ?_
    refine tq_callSp C (o_O_is l hl I a ((0 : Int32)) ((24 : Int32))) ok_O_117 rfl (Nat.le_of_ble_eq_true rfl) dc_O_fits_217 rfl (fun x28 p28 => ?_)
    try simp only [th_l_0, th_l_24] at p28
    exact th_zret C hQ dc_O_fits_220 (th_zn (by omega)) (by decide) (by decide) ⟨_, rfl, rfl, (by (try dsimp only); unfold th_valid; first | omega | (dsimp only; omega))⟩
  · refine th_tableIn (tgt := 96) C dc_O_fits_1 (by omega) (by omega) (by rw [w1]; rfl) (by decide) ?_
    refine th_iload_n C dc_O_fits_96 rfl rfl ?_
    refine th_iconst (v := 0) C dc_O_fits_97 th_c_0 ?_
    refine th_iconst (v := 3) C dc_O_fits_98 th_c_3 ?_
    refine tq_callSp C (o_O_is l hl I a ((0 : Int32)) ((3 : Int32))) ok_O_117 rfl (Nat.le_of_ble_eq_true rfl) dc_O_fits_99 rfl (fun x29 p29 => ?_)
    try simp only [th_l_0, th_l_3] at p29
    exact th_zret C hQ dc_O_fits_102 (th_zn (by omega)) (by decide) (by decide) ⟨_, rfl, rfl, (by (try dsimp only); unfold th_valid; first | omega | (dsimp only; omega))⟩
  · refine th_tableIn (tgt := 213) C dc_O_fits_1 (by omega) (by omega) (by rw [w1]; rfl) (by decide) ?_
    refine th_iload_n C dc_O_fits_213 rfl rfl ?_
    refine th_iconst (v := 0) C dc_O_fits_214 th_c_0 ?_
    refine th_bipush (v := 24) C dc_O_fits_215 th_b_24 ?_
    refine tq_callSp C (o_O_is l hl I a ((0 : Int32)) ((24 : Int32))) ok_O_117 rfl (Nat.le_of_ble_eq_true rfl) dc_O_fits_217 rfl (fun x30 p30 => ?_)
    try simp only [th_l_0, th_l_24] at p30
    exact th_zret C hQ dc_O_fits_220 (th_zn (by omega)) (by decide) (by decide) ⟨_, rfl, rfl, (by (try dsimp only); unfold th_valid; first | omega | (dsimp only; omega))⟩
  · refine th_tableIn (tgt := 221) C dc_O_fits_1 (by omega) (by omega) (by rw [w1]; rfl) (by decide) ?_
    refine th_iload_n C dc_O_fits_221 rfl rfl ?_
    refine th_iconst (v := 0) C dc_O_fits_222 th_c_0 ?_
    refine th_iconst (v := 3) C dc_O_fits_223 th_c_3 ?_
    refine tq_callSp C (o_O_is l hl I a ((0 : Int32)) ((3 : Int32))) ok_O_117 rfl (Nat.le_of_ble_eq_true rfl) dc_O_fits_224 rfl (fun x31 p31 => ?_)
    try simp only [th_l_0, th_l_3] at p31
    refine tq_if_eq (tgt := 244) C dc_O_fits_227 (by decide) rfl (fun c32 => ?_) (fun c32 => ?_)
    · refine th_iconst (v := 0) C dc_O_fits_244 th_c_0 ?_
      exact th_zret C hQ dc_O_fits_245 (rfl) (by decide) (by decide) ⟨_, rfl, rfl, (by have := th_l_0; (try dsimp only); unfold th_valid; first | omega | (dsimp only; omega))⟩
    · refine th_iload_n C dc_O_fits_230 rfl rfl ?_
      refine th_iconst (v := 0) C dc_O_fits_231 th_c_0 ?_
      refine th_bipush (v := 24) C dc_O_fits_232 th_b_24 ?_
      refine tq_callSp C (o_O_is l hl I b ((0 : Int32)) ((24 : Int32))) ok_O_117 rfl (Nat.le_of_ble_eq_true rfl) dc_O_fits_234 rfl (fun x33 p33 => ?_)
      try simp only [th_l_0, th_l_24] at p33
      refine tq_if_eq (tgt := 244) C dc_O_fits_237 (by decide) rfl (fun c34 => ?_) (fun c34 => ?_)
      · refine th_iconst (v := 0) C dc_O_fits_244 th_c_0 ?_
        exact th_zret C hQ dc_O_fits_245 (rfl) (by decide) (by decide) ⟨_, rfl, rfl, (by have := th_l_0; (try dsimp only); unfold th_valid; first | omega | (dsimp only; omega))⟩
      · refine th_iconst (v := 1) C dc_O_fits_240 th_c_1 ?_
        refine th_goto (tgt := 245) C dc_O_fits_241 (by decide) ?_
        exact th_zret C hQ dc_O_fits_245 (rfl) (by decide) (by decide) ⟨_, rfl, rfl, (by have := th_l_1; (try dsimp only); unfold th_valid; first | omega | (dsimp only; omega))⟩
  · refine th_tableIn (tgt := 96) C dc_O_fits_1 (by omega) (by omega) (by rw [w1]; rfl) (by decide) ?_
    refine th_iload_n C dc_O_fits_96 rfl rfl ?_
    refine th_iconst (v := 0) C dc_O_fits_97 th_c_0 ?_
    refine th_iconst (v := 3) C dc_O_fits_98 th_c_3 ?_
    refine tq_callSp C (o_O_is l hl I a ((0 : Int32)) ((3 : Int32))) ok_O_117 rfl (Nat.le_of_ble_eq_true rfl) dc_O_fits_99 rfl (fun x35 p35 => ?_)
    try simp only [th_l_0, th_l_3] at p35
    exact th_zret C hQ dc_O_fits_102 (th_zn (by omega)) (by decide) (by decide) ⟨_, rfl, rfl, (by (try dsimp only); unfold th_valid; first | omega | (dsimp only; omega))⟩
  · refine th_tableIn (tgt := 96) C dc_O_fits_1 (by omega) (by omega) (by rw [w1]; rfl) (by decide) ?_
    refine th_iload_n C dc_O_fits_96 rfl rfl ?_
    refine th_iconst (v := 0) C dc_O_fits_97 th_c_0 ?_
    refine th_iconst (v := 3) C dc_O_fits_98 th_c_3 ?_
    refine tq_callSp C (o_O_is l hl I a ((0 : Int32)) ((3 : Int32))) ok_O_117 rfl (Nat.le_of_ble_eq_true rfl) dc_O_fits_99 rfl (fun x36 p36 => ?_)
    try simp only [th_l_0, th_l_3] at p36
    exact th_zret C hQ dc_O_fits_102 (th_zn (by omega)) (by decide) (by decide) ⟨_, rfl, rfl, (by (try dsimp only); unfold th_valid; first | omega | (dsimp only; omega))⟩
  · refine th_tableOut (tgt := 246) C dc_O_fits_1 w1 (by decide) ?_
    refine th_iload_n C dc_O_fits_246 rfl rfl ?_
    refine th_bipush (v := 20) C dc_O_fits_247 th_b_20 ?_
    refine tq_icmp_ne (tgt := 256) C dc_O_fits_249 (by decide) rfl th_l_20 (fun c37 => ?_) (fun c37 => ?_)
    · refine th_iconst (v := 0) C dc_O_fits_256 th_c_0 ?_
      exact th_zret C hQ dc_O_fits_257 (rfl) (by decide) (by decide) ⟨_, rfl, rfl, (by have := th_l_0; (try dsimp only); unfold th_valid; first | omega | (dsimp only; omega))⟩
    · refine th_iconst (v := 1) C dc_O_fits_252 th_c_1 ?_
      refine th_goto (tgt := 257) C dc_O_fits_253 (by decide) ?_
      exact th_zret C hQ dc_O_fits_257 (rfl) (by decide) (by decide) ⟨_, rfl, rfl, (by have := th_l_1; (try dsimp only); unfold th_valid; first | omega | (dsimp only; omega))⟩

