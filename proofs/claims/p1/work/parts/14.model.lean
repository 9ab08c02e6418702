set_option maxRecDepth 100000 in
set_option maxHeartbeats 4000000 in
theorem p_O_is (l : Launch) (hl : l.stackTraces = false) (I : th_I) (v : Int32) (a : Int32) (b : Int32) : th_F l yn_O_is cb_O_is 3 (some .boolean) { frames := 0, cells := 0, slots := 0, locals := 0 } [.inl v, .inl a, .inl b] (th_m I) (th_rp I (fun x => x.toInt = 1 ∧ a.toInt ≤ v.toInt ∧ v.toInt ≤ b.toInt ∨ x.toInt = 0 ∧ ¬ (a.toInt ≤ v.toInt ∧ v.toInt ≤ b.toInt))) := by
  refine th_of hl (by decide +kernel) (Nat.le_of_ble_eq_true rfl) (fun z C hQ hN => ?_)
  show th_G l z 3 0 [(0, .inl v), (1, .inl a), (2, .inl b)] [] (th_m I) 0 0
  refine th_iload_n C dc_O_is_0 rfl rfl ?_
  refine th_iload_n C dc_O_is_1 rfl rfl ?_
  refine tq_icmp_lt (tgt := 14) C dc_O_is_2 (by decide) rfl rfl (fun c1 => ?_) (fun c1 => ?_)
  · refine th_iconst (v := 0) C dc_O_is_14 th_c_0 ?_
    exact th_zret C hQ dc_O_is_15 (rfl) (by decide) (by decide) ⟨_, rfl, rfl, (by have := th_l_0; first | omega | (dsimp only; omega))⟩
  · refine th_iload_n C dc_O_is_5 rfl rfl ?_
    refine th_iload_n C dc_O_is_6 rfl rfl ?_
    refine tq_icmp_gt (tgt := 14) C dc_O_is_7 (by decide) rfl rfl (fun c2 => ?_) (fun c2 => ?_)
    · refine th_iconst (v := 0) C dc_O_is_14 th_c_0 ?_
      exact th_zret C hQ dc_O_is_15 (rfl) (by decide) (by decide) ⟨_, rfl, rfl, (by have := th_l_0; first | omega | (dsimp only; omega))⟩
    · refine th_iconst (v := 1) C dc_O_is_10 th_c_1 ?_
      refine th_goto (tgt := 15) C dc_O_is_11 (by decide) ?_
      exact th_zret C hQ dc_O_is_15 (rfl) (by decide) (by decide) ⟨_, rfl, rfl, (by have := th_l_1; first | omega | (dsimp only; omega))⟩

set_option maxRecDepth 100000 in
set_option maxHeartbeats 4000000 in
theorem p_O_fits (l : Launch) (hl : l.stackTraces = false) (I : th_I) (o : Int32) (a : Int32) (b : Int32) : th_F l yn_O_fits cb_O_fits 3 (some .boolean) { frames := 1, cells := 0, slots := 0, locals := 22 } [.inl o, .inl a, .inl b] (th_m I) (th_rp I (fun x => x.toInt = 1 ∧ th_valid o.toInt a.toInt b.toInt ∨ x.toInt = 0 ∧ ¬ th_valid o.toInt a.toInt b.toInt)) := by
  refine th_of hl (by decide +kernel) (Nat.le_of_ble_eq_true rfl) (fun z C hQ hN => ?_)
  show th_G l z 3 0 [(0, .inl o), (1, .inl a), (2, .inl b)] [] (th_m I) 0 0
  refine th_iload_n C dc_O_fits_0 rfl rfl ?_
  have w1 : o.toInt = 0 ∨ o.toInt = 1 ∨ o.toInt = 2 ∨ o.toInt = 3 ∨ o.toInt = 4 ∨ o.toInt = 5 ∨ o.toInt = 6 ∨ o.toInt = 7 ∨ o.toInt = 8 ∨ o.toInt = 9 ∨ o.toInt = 10 ∨ o.toInt = 11 ∨ o.toInt = 12 ∨ o.toInt = 13 ∨ o.toInt = 14 ∨ o.toInt = 15 ∨ o.toInt = 16 ∨ o.toInt = 17 ∨ o.toInt = 18 ∨ o.toInt = 19 ∨ (o.toInt < 0 ∨ 19 < o.toInt) := by omega
  rcases w1 with w1 | w1 | w1 | w1 | w1 | w1 | w1 | w1 | w1 | w1 | w1 | w1 | w1 | w1 | w1 | w1 | w1 | w1 | w1 | w1 | w1
  · refine th_tableIn (tgt := 96) C dc_O_fits_1 (by omega) (by omega) (by rw [w1]; rfl) (by decide) ?_
    refine th_iload_n C dc_O_fits_96 rfl rfl ?_
    refine th_iconst (v := 0) C dc_O_fits_97 th_c_0 ?_
    refine th_iconst (v := 3) C dc_O_fits_98 th_c_3 ?_
    refine tq_callSp C (p_O_is l hl I a ((0 : Int32)) ((3 : Int32))) ok_O_117 rfl (by decide) dc_O_fits_99 rfl (fun x2 p2 => ?_)
    try simp only [th_l_0, th_l_3] at p2
    exact th_zret C hQ dc_O_fits_102 (th_zn (by omega)) (by decide) (by decide) ⟨_, rfl, rfl, (by (try dsimp only); unfold th_valid; first | omega | (dsimp only; omega))⟩
  · refine th_tableIn (tgt := 96) C dc_O_fits_1 (by omega) (by omega) (by rw [w1]; rfl) (by decide) ?_
    refine th_iload_n C dc_O_fits_96 rfl rfl ?_
    refine th_iconst (v := 0) C dc_O_fits_97 th_c_0 ?_
    refine th_iconst (v := 3) C dc_O_fits_98 th_c_3 ?_
    refine tq_callSp C (p_O_is l hl I a ((0 : Int32)) ((3 : Int32))) ok_O_117 rfl (by decide) dc_O_fits_99 rfl (fun x3 p3 => ?_)
    try simp only [th_l_0, th_l_3] at p3
    exact th_zret C hQ dc_O_fits_102 (th_zn (by omega)) (by decide) (by decide) ⟨_, rfl, rfl, (by (try dsimp only); unfold th_valid; first | omega | (dsimp only; omega))⟩
  · refine th_tableIn (tgt := 103) C dc_O_fits_1 (by omega) (by omega) (by rw [w1]; rfl) (by decide) ?_
    refine th_iload_n C dc_O_fits_103 rfl rfl ?_
    refine th_iconst (v := 0) C dc_O_fits_104 th_c_0 ?_
    refine th_iconst (v := 3) C dc_O_fits_105 th_c_3 ?_
    refine tq_callSp C (p_O_is l hl I a ((0 : Int32)) ((3 : Int32))) ok_O_117 rfl (by decide) dc_O_fits_106 rfl (fun x4 p4 => ?_)
    try simp only [th_l_0, th_l_3] at p4
    refine tq_if_eq (tgt := 125) C dc_O_fits_109 (by decide) rfl (fun c5 => ?_) (fun c5 => ?_)
    · refine th_iconst (v := 0) C dc_O_fits_125 th_c_0 ?_
      exact th_zret C hQ dc_O_fits_126 (rfl) (by decide) (by decide) ⟨_, rfl, rfl, (by have := th_l_0; (try dsimp only); unfold th_valid; first | omega | (dsimp only; omega))⟩
    · refine th_iload_n C dc_O_fits_112 rfl rfl ?_
      refine th_iconst (v := 0) C dc_O_fits_113 th_c_0 ?_
      refine th_iconst (v := 3) C dc_O_fits_114 th_c_3 ?_
      refine tq_callSp C (p_O_is l hl I b ((0 : Int32)) ((3 : Int32))) ok_O_117 rfl (by decide) dc_O_fits_115 rfl (fun x6 p6 => ?_)
      try simp only [th_l_0, th_l_3] at p6
      refine tq_if_eq (tgt := 125) C dc_O_fits_118 (by decide) rfl (fun c7 => ?_) (fun c7 => ?_)
      · refine th_iconst (v := 0) C dc_O_fits_125 th_c_0 ?_
        exact th_zret C hQ dc_O_fits_126 (rfl) (by decide) (by decide) ⟨_, rfl, rfl, (by have := th_l_0; (try dsimp only); unfold th_valid; first | omega | (dsimp only; omega))⟩
      · refine th_iconst (v := 1) C dc_O_fits_121 th_c_1 ?_
        refine th_goto (tgt := 126) C dc_O_fits_122 (by decide) ?_
        exact th_zret C hQ dc_O_fits_126 (rfl) (by decide) (by decide) ⟨_, rfl, rfl, (by have := th_l_1; (try dsimp only); unfold th_valid; first | omega | (dsimp only; omega))⟩
  · refine th_tableIn (tgt := 96) C dc_O_fits_1 (by omega) (by omega) (by rw [w1]; rfl) (by decide) ?_
    refine th_iload_n C dc_O_fits_96 rfl rfl ?_
    refine th_iconst (v := 0) C dc_O_fits_97 th_c_0 ?_
    refine th_iconst (v := 3) C dc_O_fits_98 th_c_3 ?_
    refine tq_callSp C (p_O_is l hl I a ((0 : Int32)) ((3 : Int32))) ok_O_117 rfl (by decide) dc_O_fits_99 rfl (fun x8 p8 => ?_)
    try simp only [th_l_0, th_l_3] at p8
    exact th_zret C hQ dc_O_fits_102 (th_zn (by omega)) (by decide) (by decide) ⟨_, rfl, rfl, (by (try dsimp only); unfold th_valid; first | omega | (dsimp only; omega))⟩
  · refine th_tableIn (tgt := 96) C dc_O_fits_1 (by omega) (by omega) (by rw [w1]; rfl) (by decide) ?_
    refine th_iload_n C dc_O_fits_96 rfl rfl ?_
    refine th_iconst (v := 0) C dc_O_fits_97 th_c_0 ?_
    refine th_iconst (v := 3) C dc_O_fits_98 th_c_3 ?_
    refine tq_callSp C (p_O_is l hl I a ((0 : Int32)) ((3 : Int32))) ok_O_117 rfl (by decide) dc_O_fits_99 rfl (fun x9 p9 => ?_)
    try simp only [th_l_0, th_l_3] at p9
    exact th_zret C hQ dc_O_fits_102 (th_zn (by omega)) (by decide) (by decide) ⟨_, rfl, rfl, (by (try dsimp only); unfold th_valid; first | omega | (dsimp only; omega))⟩
  · refine th_tableIn (tgt := 127) C dc_O_fits_1 (by omega) (by omega) (by rw [w1]; rfl) (by decide) ?_
    refine th_iload_n C dc_O_fits_127 rfl rfl ?_
    refine th_iconst (v := 0) C dc_O_fits_128 th_c_0 ?_
    refine th_iconst (v := 2) C dc_O_fits_129 th_c_2 ?_
    refine tq_callSp C (p_O_is l hl I a ((0 : Int32)) ((2 : Int32))) ok_O_117 rfl (by decide) dc_O_fits_130 rfl (fun x10 p10 => ?_)
    try simp only [th_l_0, th_l_2] at p10
    exact th_zret C hQ dc_O_fits_133 (th_zn (by omega)) (by decide) (by decide) ⟨_, rfl, rfl, (by (try dsimp only); unfold th_valid; first | omega | (dsimp only; omega))⟩
  · refine th_tableIn (tgt := 127) C dc_O_fits_1 (by omega) (by omega) (by rw [w1]; rfl) (by decide) ?_
    refine th_iload_n C dc_O_fits_127 rfl rfl ?_
    refine th_iconst (v := 0) C dc_O_fits_128 th_c_0 ?_
    refine th_iconst (v := 2) C dc_O_fits_129 th_c_2 ?_
    refine tq_callSp C (p_O_is l hl I a ((0 : Int32)) ((2 : Int32))) ok_O_117 rfl (by decide) dc_O_fits_130 rfl (fun x11 p11 => ?_)
    try simp only [th_l_0, th_l_2] at p11
    exact th_zret C hQ dc_O_fits_133 (th_zn (by omega)) (by decide) (by decide) ⟨_, rfl, rfl, (by (try dsimp only); unfold th_valid; first | omega | (dsimp only; omega))⟩
  · refine th_tableIn (tgt := 134) C dc_O_fits_1 (by omega) (by omega) (by rw [w1]; rfl) (by decide) ?_
    refine th_iload_n C dc_O_fits_134 rfl rfl ?_
    refine th_iconst (v := 0) C dc_O_fits_135 th_c_0 ?_
    refine th_iconst (v := 2) C dc_O_fits_136 th_c_2 ?_
    refine tq_callSp C (p_O_is l hl I a ((0 : Int32)) ((2 : Int32))) ok_O_117 rfl (by decide) dc_O_fits_137 rfl (fun x12 p12 => ?_)
    try simp only [th_l_0, th_l_2] at p12
    refine tq_if_eq (tgt := 156) C dc_O_fits_140 (by decide) rfl (fun c13 => ?_) (fun c13 => ?_)
    · refine th_iconst (v := 0) C dc_O_fits_156 th_c_0 ?_
      exact th_zret C hQ dc_O_fits_157 (rfl) (by decide) (by decide) ⟨_, rfl, rfl, (by have := th_l_0; (try dsimp only); unfold th_valid; first | omega | (dsimp only; omega))⟩
    · refine th_iload_n C dc_O_fits_143 rfl rfl ?_
      refine th_iconst (v := 0) C dc_O_fits_144 th_c_0 ?_
      refine th_iconst (v := 3) C dc_O_fits_145 th_c_3 ?_
      refine tq_callSp C (p_O_is l hl I b ((0 : Int32)) ((3 : Int32))) ok_O_117 rfl (by decide) dc_O_fits_146 rfl (fun x14 p14 => ?_)
      try simp only [th_l_0, th_l_3] at p14
      refine tq_if_eq (tgt := 156) C dc_O_fits_149 (by decide) rfl (fun c15 => ?_) (fun c15 => ?_)
      · refine th_iconst (v := 0) C dc_O_fits_156 th_c_0 ?_
        exact th_zret C hQ dc_O_fits_157 (rfl) (by decide) (by decide) ⟨_, rfl, rfl, (by have := th_l_0; (try dsimp only); unfold th_valid; first | omega | (dsimp only; omega))⟩
      · refine th_iconst (v := 1) C dc_O_fits_152 th_c_1 ?_
        refine th_goto (tgt := 157) C dc_O_fits_153 (by decide) ?_
        exact th_zret C hQ dc_O_fits_157 (rfl) (by decide) (by decide) ⟨_, rfl, rfl, (by have := th_l_1; (try dsimp only); unfold th_valid; first | omega | (dsimp only; omega))⟩
  · refine th_tableIn (tgt := 158) C dc_O_fits_1 (by omega) (by omega) (by rw [w1]; rfl) (by decide) ?_
    refine th_iload_n C dc_O_fits_158 rfl rfl ?_
    refine th_iconst (v := 0) C dc_O_fits_159 th_c_0 ?_
    refine th_iconst (v := 2) C dc_O_fits_160 th_c_2 ?_
    refine tq_callSp C (p_O_is l hl I a ((0 : Int32)) ((2 : Int32))) ok_O_117 rfl (by decide) dc_O_fits_161 rfl (fun x16 p16 => ?_)
    try simp only [th_l_0, th_l_2] at p16
    refine tq_if_eq (tgt := 180) C dc_O_fits_164 (by decide) rfl (fun c17 => ?_) (fun c17 => ?_)
    · refine th_iconst (v := 0) C dc_O_fits_180 th_c_0 ?_
      exact th_zret C hQ dc_O_fits_181 (rfl) (by decide) (by decide) ⟨_, rfl, rfl, (by have := th_l_0; (try dsimp only); unfold th_valid; first | omega | (dsimp only; omega))⟩
    · refine th_iload_n C dc_O_fits_167 rfl rfl ?_
      refine th_iconst (v := 0) C dc_O_fits_168 th_c_0 ?_
      refine th_iconst (v := 2) C dc_O_fits_169 th_c_2 ?_
      refine tq_callSp C (p_O_is l hl I b ((0 : Int32)) ((2 : Int32))) ok_O_117 rfl (by decide) dc_O_fits_170 rfl (fun x18 p18 => ?_)
      try simp only [th_l_0, th_l_2] at p18
      refine tq_if_eq (tgt := 180) C dc_O_fits_173 (by decide) rfl (fun c19 => ?_) (fun c19 => ?_)
      · refine th_iconst (v := 0) C dc_O_fits_180 th_c_0 ?_
        exact th_zret C hQ dc_O_fits_181 (rfl) (by decide) (by decide) ⟨_, rfl, rfl, (by have := th_l_0; (try dsimp only); unfold th_valid; first | omega | (dsimp only; omega))⟩
      · refine th_iconst (v := 1) C dc_O_fits_176 th_c_1 ?_
        refine th_goto (tgt := 181) C dc_O_fits_177 (by decide) ?_
        exact th_zret C hQ dc_O_fits_181 (rfl) (by decide) (by decide) ⟨_, rfl, rfl, (by have := th_l_1; (try dsimp only); unfold th_valid; first | omega | (dsimp only; omega))⟩
  · refine th_tableIn (tgt := 127) C dc_O_fits_1 (by omega) (by omega) (by rw [w1]; rfl) (by decide) ?_
    refine th_iload_n C dc_O_fits_127 rfl rfl ?_
    refine th_iconst (v := 0) C dc_O_fits_128 th_c_0 ?_
    refine th_iconst (v := 2) C dc_O_fits_129 th_c_2 ?_
    refine tq_callSp C (p_O_is l hl I a ((0 : Int32)) ((2 : Int32))) ok_O_117 rfl (by decide) dc_O_fits_130 rfl (fun x20 p20 => ?_)
    try simp only [th_l_0, th_l_2] at p20
    exact th_zret C hQ dc_O_fits_133 (th_zn (by omega)) (by decide) (by decide) ⟨_, rfl, rfl, (by (try dsimp only); unfold th_valid; first | omega | (dsimp only; omega))⟩
  · refine th_tableIn (tgt := 127) C dc_O_fits_1 (by omega) (by omega) (by rw [w1]; rfl) (by decide) ?_
    refine th_iload_n C dc_O_fits_127 rfl rfl ?_
    refine th_iconst (v := 0) C dc_O_fits_128 th_c_0 ?_
    refine th_iconst (v := 2) C dc_O_fits_129 th_c_2 ?_
    refine tq_callSp C (p_O_is l hl I a ((0 : Int32)) ((2 : Int32))) ok_O_117 rfl (by decide) dc_O_fits_130 rfl (fun x21 p21 => ?_)
    try simp only [th_l_0, th_l_2] at p21
    exact th_zret C hQ dc_O_fits_133 (th_zn (by omega)) (by decide) (by decide) ⟨_, rfl, rfl, (by (try dsimp only); unfold th_valid; first | omega | (dsimp only; omega))⟩
  · refine th_tableIn (tgt := 182) C dc_O_fits_1 (by omega) (by omega) (by rw [w1]; rfl) (by decide) ?_
    refine th_iload_n C dc_O_fits_182 rfl rfl ?_
    refine th_iconst (v := 0) C dc_O_fits_183 th_c_0 ?_
    refine th_iconst (v := 4) C dc_O_fits_184 th_c_4 ?_
    refine tq_callSp C (p_O_is l hl I a ((0 : Int32)) ((4 : Int32))) ok_O_117 rfl (by decide) dc_O_fits_185 rfl (fun x22 p22 => ?_)
    try simp only [th_l_0, th_l_4] at p22
    exact th_zret C hQ dc_O_fits_188 (th_zn (by omega)) (by decide) (by decide) ⟨_, rfl, rfl, (by (try dsimp only); unfold th_valid; first | omega | (dsimp only; omega))⟩
  · refine th_tableIn (tgt := 189) C dc_O_fits_1 (by omega) (by omega) (by rw [w1]; rfl) (by decide) ?_
    refine th_iload_n C dc_O_fits_189 rfl rfl ?_
    refine th_iconst (v := 0) C dc_O_fits_190 th_c_0 ?_
    refine th_iconst (v := 4) C dc_O_fits_191 th_c_4 ?_
    refine tq_callSp C (p_O_is l hl I a ((0 : Int32)) ((4 : Int32))) ok_O_117 rfl (by decide) dc_O_fits_192 rfl (fun x23 p23 => ?_)
    try simp only [th_l_0, th_l_4] at p23
    refine tq_if_eq (tgt := 211) C dc_O_fits_195 (by decide) rfl (fun c24 => ?_) (fun c24 => ?_)
    · refine th_iconst (v := 0) C dc_O_fits_211 th_c_0 ?_
      exact th_zret C hQ dc_O_fits_212 (rfl) (by decide) (by decide) ⟨_, rfl, rfl, (by have := th_l_0; (try dsimp only); unfold th_valid; first | omega | (dsimp only; omega))⟩
    · refine th_iload_n C dc_O_fits_198 rfl rfl ?_
      refine th_iconst (v := 0) C dc_O_fits_199 th_c_0 ?_
      refine th_iconst (v := 3) C dc_O_fits_200 th_c_3 ?_
      refine tq_callSp C (p_O_is l hl I b ((0 : Int32)) ((3 : Int32))) ok_O_117 rfl (by decide) dc_O_fits_201 rfl (fun x25 p25 => ?_)
      try simp only [th_l_0, th_l_3] at p25
      refine tq_if_eq (tgt := 211) C dc_O_fits_204 (by decide) rfl (fun c26 => ?_) (fun c26 => ?_)
      · refine th_iconst (v := 0) C dc_O_fits_211 th_c_0 ?_
        exact th_zret C hQ dc_O_fits_212 (rfl) (by decide) (by decide) ⟨_, rfl, rfl, (by have := th_l_0; (try dsimp only); unfold th_valid; first | omega | (dsimp only; omega))⟩
      · refine th_iconst (v := 1) C dc_O_fits_207 th_c_1 ?_
        refine th_goto (tgt := 212) C dc_O_fits_208 (by decide) ?_
        exact th_zret C hQ dc_O_fits_212 (rfl) (by decide) (by decide) ⟨_, rfl, rfl, (by have := th_l_1; (try dsimp only); unfold th_valid; first | omega | (dsimp only; omega))⟩
  · refine th_tableIn (tgt := 182) C dc_O_fits_1 (by omega) (by omega) (by rw [w1]; rfl) (by decide) ?_
    refine th_iload_n C dc_O_fits_182 rfl rfl ?_
    refine th_iconst (v := 0) C dc_O_fits_183 th_c_0 ?_
    refine th_iconst (v := 4) C dc_O_fits_184 th_c_4 ?_
    refine tq_callSp C (p_O_is l hl I a ((0 : Int32)) ((4 : Int32))) ok_O_117 rfl (by decide) dc_O_fits_185 rfl (fun x27 p27 => ?_)
    try simp only [th_l_0, th_l_4] at p27
    exact th_zret C hQ dc_O_fits_188 (th_zn (by omega)) (by decide) (by decide) ⟨_, rfl, rfl, (by (try dsimp only); unfold th_valid; first | omega | (dsimp only; omega))⟩
  · refine th_tableIn (tgt := 213) C dc_O_fits_1 (by omega) (by omega) (by rw [w1]; rfl) (by decide) ?_
    refine th_iload_n C dc_O_fits_213 rfl rfl ?_
    refine th_iconst (v := 0) C dc_O_fits_214 th_c_0 ?_
    refine th_bipush (v := 24) C dc_O_fits_215 th_b_24 ?_
    refine tq_callSp C (p_O_is l hl I a ((0 : Int32)) ((24 : Int32))) ok_O_117 rfl (by decide) dc_O_fits_217 rfl (fun x28 p28 => ?_)
    try simp only [th_l_0, th_l_24] at p28
    exact th_zret C hQ dc_O_fits_220 (th_zn (by omega)) (by decide) (by decide) ⟨_, rfl, rfl, (by (try dsimp only); unfold th_valid; first | omega | (dsimp only; omega))⟩
  · refine th_tableIn (tgt := 96) C dc_O_fits_1 (by omega) (by omega) (by rw [w1]; rfl) (by decide) ?_
    refine th_iload_n C dc_O_fits_96 rfl rfl ?_
    refine th_iconst (v := 0) C dc_O_fits_97 th_c_0 ?_
    refine th_iconst (v := 3) C dc_O_fits_98 th_c_3 ?_
    refine tq_callSp C (p_O_is l hl I a ((0 : Int32)) ((3 : Int32))) ok_O_117 rfl (by decide) dc_O_fits_99 rfl (fun x29 p29 => ?_)
    try simp only [th_l_0, th_l_3] at p29
    exact th_zret C hQ dc_O_fits_102 (th_zn (by omega)) (by decide) (by decide) ⟨_, rfl, rfl, (by (try dsimp only); unfold th_valid; first | omega | (dsimp only; omega))⟩
  · refine th_tableIn (tgt := 213) C dc_O_fits_1 (by omega) (by omega) (by rw [w1]; rfl) (by decide) ?_
    refine th_iload_n C dc_O_fits_213 rfl rfl ?_
    refine th_iconst (v := 0) C dc_O_fits_214 th_c_0 ?_
    refine th_bipush (v := 24) C dc_O_fits_215 th_b_24 ?_
    refine tq_callSp C (p_O_is l hl I a ((0 : Int32)) ((24 : Int32))) ok_O_117 rfl (by decide) dc_O_fits_217 rfl (fun x30 p30 => ?_)
    try simp only [th_l_0, th_l_24] at p30
    exact th_zret C hQ dc_O_fits_220 (th_zn (by omega)) (by decide) (by decide) ⟨_, rfl, rfl, (by (try dsimp only); unfold th_valid; first | omega | (dsimp only; omega))⟩
  · refine th_tableIn (tgt := 221) C dc_O_fits_1 (by omega) (by omega) (by rw [w1]; rfl) (by decide) ?_
    refine th_iload_n C dc_O_fits_221 rfl rfl ?_
    refine th_iconst (v := 0) C dc_O_fits_222 th_c_0 ?_
    refine th_iconst (v := 3) C dc_O_fits_223 th_c_3 ?_
    refine tq_callSp C (p_O_is l hl I a ((0 : Int32)) ((3 : Int32))) ok_O_117 rfl (by decide) dc_O_fits_224 rfl (fun x31 p31 => ?_)
    try simp only [th_l_0, th_l_3] at p31
    refine tq_if_eq (tgt := 244) C dc_O_fits_227 (by decide) rfl (fun c32 => ?_) (fun c32 => ?_)
    · refine th_iconst (v := 0) C dc_O_fits_244 th_c_0 ?_
      exact th_zret C hQ dc_O_fits_245 (rfl) (by decide) (by decide) ⟨_, rfl, rfl, (by have := th_l_0; (try dsimp only); unfold th_valid; first | omega | (dsimp only; omega))⟩
    · refine th_iload_n C dc_O_fits_230 rfl rfl ?_
      refine th_iconst (v := 0) C dc_O_fits_231 th_c_0 ?_
      refine th_bipush (v := 24) C dc_O_fits_232 th_b_24 ?_
      refine tq_callSp C (p_O_is l hl I b ((0 : Int32)) ((24 : Int32))) ok_O_117 rfl (by decide) dc_O_fits_234 rfl (fun x33 p33 => ?_)
      try simp only [th_l_0, th_l_24] at p33
      refine tq_if_eq (tgt := 244) C dc_O_fits_237 (by decide) rfl (fun c34 => ?_) (fun c34 => ?_)
      · refine th_iconst (v := 0) C dc_O_fits_244 th_c_0 ?_
        exact th_zret C hQ dc_O_fits_245 (rfl) (by decide) (by decide) ⟨_, rfl, rfl, (by have := th_l_0; (try dsimp only); unfold th_valid; first | omega | (dsimp only; omega))⟩
      · refine th_iconst (v := 1) C dc_O_fits_240 th_c_1 ?_
        refine th_goto (tgt := 245) C dc_O_fits_241 (by decide) ?_
        exact th_zret C hQ dc_O_fits_245 (rfl) (by decide) (by decide) ⟨_, rfl, rfl, (by have := th_l_1; (try dsimp only); unfold th_valid; first | omega | (dsimp only; omega))⟩
  · refine th_tableIn (tgt := 96) C dc_O_fits_1 (by omega) (by omega) (by rw [w1]; rfl) (by decide) ?_
    refine th_iload_n C dc_O_fits_96 rfl rfl ?_
    refine th_iconst (v := 0) C dc_O_fits_97 th_c_0 ?_
    refine th_iconst (v := 3) C dc_O_fits_98 th_c_3 ?_
    refine tq_callSp C (p_O_is l hl I a ((0 : Int32)) ((3 : Int32))) ok_O_117 rfl (by decide) dc_O_fits_99 rfl (fun x35 p35 => ?_)
    try simp only [th_l_0, th_l_3] at p35
    exact th_zret C hQ dc_O_fits_102 (th_zn (by omega)) (by decide) (by decide) ⟨_, rfl, rfl, (by (try dsimp only); unfold th_valid; first | omega | (dsimp only; omega))⟩
  · refine th_tableIn (tgt := 96) C dc_O_fits_1 (by omega) (by omega) (by rw [w1]; rfl) (by decide) ?_
    refine th_iload_n C dc_O_fits_96 rfl rfl ?_
    refine th_iconst (v := 0) C dc_O_fits_97 th_c_0 ?_
    refine th_iconst (v := 3) C dc_O_fits_98 th_c_3 ?_
    refine tq_callSp C (p_O_is l hl I a ((0 : Int32)) ((3 : Int32))) ok_O_117 rfl (by decide) dc_O_fits_99 rfl (fun x36 p36 => ?_)
    try simp only [th_l_0, th_l_3] at p36
    exact th_zret C hQ dc_O_fits_102 (th_zn (by omega)) (by decide) (by decide) ⟨_, rfl, rfl, (by (try dsimp only); unfold th_valid; first | omega | (dsimp only; omega))⟩
  · refine th_tableOut (tgt := 246) C dc_O_fits_1 w1 (by decide) ?_
    refine th_iload_n C dc_O_fits_246 rfl rfl ?_
    refine th_bipush (v := 20) C dc_O_fits_247 th_b_20 ?_
    refine tq_icmp_ne (tgt := 256) C dc_O_fits_249 (by decide) rfl th_l_20 (fun c37 => ?_) (fun c37 => ?_)
    · refine th_iconst (v := 0) C dc_O_fits_256 th_c_0 ?_
      exact th_zret C hQ dc_O_fits_257 (rfl) (by decide) (by decide) ⟨_, rfl, rfl, (by have := th_l_0; (try dsimp only); unfold th_valid; first | omega | (dsimp only; omega))⟩
    · refine th_iconst (v := 1) C dc_O_fits_252 th_c_1 ?_
      refine th_goto (tgt := 257) C dc_O_fits_253 (by decide) ?_
      exact th_zret C hQ dc_O_fits_257 (rfl) (by decide) (by decide) ⟨_, rfl, rfl, (by have := th_l_1; (try dsimp only); unfold th_valid; first | omega | (dsimp only; omega))⟩

set_option maxRecDepth 100000 in
set_option maxHeartbeats 4000000 in
theorem p_O_refuse (l : Launch) (hl : l.stackTraces = false) {A : th_I} (I : th_I) (c : Int32) (hI : th_Of A I) : th_F l yn_O_refuse cb_O_refuse 2 (some .int) { frames := 0, cells := 0, slots := 0, locals := 0 } [.inr (some (20, 0)), .inl c] (th_m I) (th_ri (fun x J => (x.toInt = 0 ∧ (J 20 0 34).toInt = c.toInt) ∧ ∀ i k, J 17 i k = A 17 i k)) := by
  refine th_of hl (by decide +kernel) (Nat.le_of_ble_eq_true rfl) (fun z C hQ hN => ?_)
  show th_G l z 2 0 [(0, .inr (some (20, 0))), (1, .inl c)] [] (th_m I) 0 0
  refine th_aload_n C dc_O_refuse_0 rfl rfl ?_
  refine th_iload_n C dc_O_refuse_1 rfl rfl ?_
  refine tq_putI C dc_O_refuse_2 cl_20 fd_O_114 rfl (show 0 < 1 from by omega) rfl rfl ?_
  refine th_gen (P := fun J => (∀ i k, J 17 i k = A 17 i k) ∧ J = th_u I 20 0 34 c) ⟨fun i k => (th_u_tag (by decide)).trans (hI.2 i k), rfl⟩ (fun I1 fI1 => ?_)
  obtain ⟨fI1, u1⟩ := fI1
  have e1 : c = I1 20 0 34 := by rw [u1, th_u_eq]
  have g1 : c.toInt = (I1 20 0 34).toInt := by rw [← e1]
  refine th_iconst (v := 0) C dc_O_refuse_5 th_c_0 ?_
  exact th_iret C hQ dc_O_refuse_6 (by decide) (by decide) ⟨_, _, rfl, rfl, (by have := th_l_0; first | omega | (dsimp only; omega)), fI1⟩

set_option maxRecDepth 100000 in
set_option maxHeartbeats 4000000 in
theorem p_O_thrown (l : Launch) (hl : l.stackTraces = false) (I : th_I) : th_F l yn_O_thrown cb_O_thrown 1 (some .int) { frames := 0, cells := 0, slots := 0, locals := 0 } [.inr (some (20, 0))] (th_m I) (th_rp I (fun x => x.toInt = (I 20 0 34).toInt)) := by
  refine th_of hl (by decide +kernel) (Nat.le_of_ble_eq_true rfl) (fun z C hQ hN => ?_)
  show th_G l z 1 0 [(0, .inr (some (20, 0)))] [] (th_m I) 0 0
  refine th_aload_n C dc_O_thrown_0 rfl rfl ?_
  refine tq_getI C dc_O_thrown_1 cl_20 fd_O_114 rfl (show 0 < 1 from by omega) (fun x1 e1 => ?_)
  have g1 : x1.toInt = (I 20 0 34).toInt := by rw [e1]
  exact th_iret C hQ dc_O_thrown_4 (by decide) (by decide) ⟨_, rfl, rfl, (by first | omega | (dsimp only; omega))⟩

set_option maxRecDepth 100000 in
set_option maxHeartbeats 4000000 in
theorem p_O_alive (l : Launch) (hl : l.stackTraces = false) {A : th_I} (I : th_I) (t : Int32) (hI : th_Of A I) (ht : 0 ≤ t.toInt ∧ t.toInt ≤ 4) : th_F l yn_O_alive cb_O_alive 2 (some .boolean) { frames := 0, cells := 0, slots := 0, locals := 0 } [.inr (some (20, 0)), .inl t] (th_m I) (th_rp I (fun x => x.toInt = 0)) := by
  refine th_of hl (by decide +kernel) (Nat.le_of_ble_eq_true rfl) (fun z C hQ hN => ?_)
  show th_G l z 2 0 [(0, .inr (some (20, 0))), (1, .inl t)] [] (th_m I) 0 0
  refine th_aload_n C dc_O_alive_0 rfl rfl ?_
  refine tq_getR C dc_O_alive_1 cl_20 fd_O_43 rfl (show 0 < 1 from by omega) rfl ?_
  refine th_iload_n C dc_O_alive_4 rfl rfl ?_
  obtain ⟨n2, m2⟩ := th_nat (a := t.toInt) (by omega)
  have e1 : (0 : Int32) = I 32 0 n2 := ((hI.1 32 0 n2 (by decide)).trans rfl).symm
  refine tq_ialdE C dc_O_alive_5 rfl (fun _ => rfl) (show 0 < 1 from by omega) rfl m2 (show n2 < 5 from by omega) e1 ?_
  refine tq_if_eq (tgt := 23) C dc_O_alive_6 (by decide) th_l_0 (fun c3 => ?_) (fun c3 => ?_)
  · refine th_iconst (v := 0) C dc_O_alive_23 th_c_0 ?_
    exact th_zret C hQ dc_O_alive_24 (rfl) (by decide) (by decide) ⟨_, rfl, rfl, (by have := th_l_0; first | omega | (dsimp only; omega))⟩
  · exact absurd c3 (by decide)

set_option maxRecDepth 100000 in
set_option maxHeartbeats 4000000 in
theorem p_O_bound (l : Launch) (hl : l.stackTraces = false) {A : th_I} (I : th_I) (t : Int32) (s : Int32) (hI : th_Of A I) (ht : 0 ≤ t.toInt ∧ t.toInt ≤ 4) : th_F l yn_O_bound cb_O_bound 4 (some .int) { frames := 0, cells := 0, slots := 0, locals := 0 } [.inr (some (20, 0)), .inl t, .inl s] (th_m I) (th_rp I (fun x => x.toInt = -1)) := by
  refine th_of hl (by decide +kernel) (Nat.le_of_ble_eq_true rfl) (fun z C hQ hN => ?_)
  show th_G l z 4 0 [(0, .inr (some (20, 0))), (1, .inl t), (2, .inl s)] [] (th_m I) 0 0
  refine th_aload_n C dc_O_bound_0 rfl rfl ?_
  refine tq_getR C dc_O_bound_1 cl_20 fd_O_31 rfl (show 0 < 1 from by omega) rfl ?_
  refine th_iload_n C dc_O_bound_4 rfl rfl ?_
  obtain ⟨n2, m2⟩ := th_nat (a := t.toInt) (by omega)
  have e1 : (0 : Int32) = I 28 0 n2 := ((hI.1 28 0 n2 (by decide)).trans rfl).symm
  refine tq_ialdE C dc_O_bound_5 rfl (fun _ => rfl) (show 0 < 1 from by omega) rfl m2 (show n2 < 5 from by omega) e1 ?_
  refine th_iconst (v := 1) C dc_O_bound_6 th_c_1 ?_
  refine tq_isub C dc_O_bound_7 th_l_0 th_l_1 (fun x3 e3 a3 => ?_)
  refine th_istore_n (lv' := [(0, .inr (some (20, 0))), (1, .inl t), (2, .inl s), (3, .inl x3)]) C dc_O_bound_8 rfl (by decide) rfl ?_
  refine th_iload_n C dc_O_bound_9 rfl rfl ?_
  refine tq_if_lt (tgt := 41) C dc_O_bound_10 (by decide) rfl (fun c4 => ?_) (fun c4 => ?_)
  · refine th_iconst (v := -1) C dc_O_bound_41 th_c_m1 ?_
    exact th_iret C hQ dc_O_bound_42 (by decide) (by decide) ⟨_, rfl, rfl, (by have := th_l_m1; first | omega | (dsimp only; omega))⟩
  · exact absurd c4 (by omega)

set_option maxRecDepth 100000 in
set_option maxHeartbeats 4000000 in
theorem p_O_get (l : Launch) (hl : l.stackTraces = false) {A : th_I} (I : th_I) (t : Int32) (s : Int32) (hI : th_Of A I) (ht : 0 ≤ t.toInt ∧ t.toInt ≤ 4) (hs : 0 ≤ s.toInt ∧ s.toInt ≤ 3) : th_F l yn_O_get cb_O_get 4 (some .int) { frames := 1, cells := 0, slots := 0, locals := 23 } [.inr (some (20, 0)), .inl t, .inl s] (th_m I) (th_rp I (fun x => x.toInt = 0)) := by
  refine th_of hl (by decide +kernel) (Nat.le_of_ble_eq_true rfl) (fun z C hQ hN => ?_)
  show th_G l z 4 0 [(0, .inr (some (20, 0))), (1, .inl t), (2, .inl s)] [] (th_m I) 0 0
  refine th_aload_n C dc_O_get_0 rfl rfl ?_
  refine th_iload_n C dc_O_get_1 rfl rfl ?_
  refine th_iload_n C dc_O_get_2 rfl rfl ?_
  refine tq_callVp C (p_O_bound l hl I t s hI (by omega)) ok_O_132 cl_20 (show 0 < 1 from by omega) rfl (by decide) dc_O_get_3 rfl (fun x1 p1 => ?_)
  refine th_istore_n (lv' := [(0, .inr (some (20, 0))), (1, .inl t), (2, .inl s), (3, .inl x1)]) C dc_O_get_6 rfl (by decide) rfl ?_
  refine th_iload_n C dc_O_get_7 rfl rfl ?_
  refine tq_if_ge (tgt := 20) C dc_O_get_8 (by decide) rfl (fun c2 => ?_) (fun c2 => ?_)
  · exact absurd c2 (by omega)
  · refine th_aload_n C dc_O_get_11 rfl rfl ?_
    refine tq_getR C dc_O_get_12 cl_20 fd_O_22 rfl (show 0 < 1 from by omega) rfl ?_
    refine th_iload_n C dc_O_get_15 rfl rfl ?_
    obtain ⟨n4, m4⟩ := th_nat (a := s.toInt) (by omega)
    have e3 : (0 : Int32) = I 25 0 n4 := ((hI.1 25 0 n4 (by decide)).trans rfl).symm
    refine tq_ialdE C dc_O_get_16 rfl (fun _ => rfl) (show 0 < 1 from by omega) rfl m4 (show n4 < 4 from by omega) e3 ?_
    refine th_goto (tgt := 26) C dc_O_get_17 (by decide) ?_
    exact th_iret C hQ dc_O_get_26 (by decide) (by decide) ⟨_, rfl, rfl, (by have := th_l_0; first | omega | (dsimp only; omega))⟩

set_option maxRecDepth 100000 in
set_option maxHeartbeats 4000000 in
theorem p_O_begin (l : Launch) (hl : l.stackTraces = false) {A : th_I} (I : th_I) (t : Int32) (hI : th_Of A I) (ht : 0 ≤ t.toInt ∧ t.toInt ≤ 4) : th_F l yn_O_begin cb_O_begin 2 (some .boolean) { frames := 1, cells := 0, slots := 0, locals := 21 } [.inr (some (20, 0)), .inl t] (th_m I) (th_ri (fun x J => (x.toInt = 1 ∧ (J 20 0 34).toInt = 0) ∧ ∀ i k, J 17 i k = A 17 i k)) := by
  refine th_of hl (by decide +kernel) (Nat.le_of_ble_eq_true rfl) (fun z C hQ hN => ?_)
  show th_G l z 2 0 [(0, .inr (some (20, 0))), (1, .inl t)] [] (th_m I) 0 0
  have e0 : (0 : Int32) = I 20 0 34 := ((hI.1 20 0 34 (by decide)).trans rfl).symm
  have g0 : 0 = (I 20 0 34).toInt := by rw [← e0]; exact th_l_0.symm
  refine th_aload_n C dc_O_begin_0 rfl rfl ?_
  refine th_iload_n C dc_O_begin_1 rfl rfl ?_
  refine tq_callVp C (p_O_alive l hl I t hI (by omega)) ok_O_128 cl_20 (show 0 < 1 from by omega) rfl (by decide) dc_O_begin_2 rfl (fun x1 p1 => ?_)
  refine tq_if_eq (tgt := 10) C dc_O_begin_5 (by decide) rfl (fun c2 => ?_) (fun c2 => ?_)
  · refine th_aload_n C dc_O_begin_10 rfl rfl ?_
    refine tq_getR C dc_O_begin_11 cl_20 fd_O_43 rfl (show 0 < 1 from by omega) rfl ?_
    refine th_iload_n C dc_O_begin_14 rfl rfl ?_
    refine th_iconst (v := 1) C dc_O_begin_15 th_c_1 ?_
    obtain ⟨n3, m3⟩ := th_nat (a := t.toInt) (by omega)
    refine tq_iastN C dc_O_begin_16 rfl (fun _ => rfl) (show 0 < 1 from by omega) rfl m3 (show n3 < 5 from by omega) ?_
    refine th_gen (P := fun J => (∀ i k, J 17 i k = A 17 i k) ∧ J = th_u I 32 0 n3 ((1 : Int32))) ⟨fun i k => (th_u_tag (by decide)).trans (hI.2 i k), rfl⟩ (fun I4 fI4 => ?_)
    obtain ⟨fI4, u4⟩ := fI4
    have e5 : (0 : Int32) = I4 20 0 34 := by rw [u4, th_u_tag (by decide)]; exact e0
    have g5 : 0 = (I4 20 0 34).toInt := by rw [← e5]; exact th_l_0.symm
    have e4 : (1 : Int32) = I4 32 0 n3 := by rw [u4, th_u_eq]
    have g4 : 1 = (I4 32 0 n3).toInt := by rw [← e4]; exact th_l_1.symm
    refine th_aload_n C dc_O_begin_17 rfl rfl ?_
    refine tq_getR C dc_O_begin_18 cl_20 fd_O_46 rfl (show 0 < 1 from by omega) rfl ?_
    refine th_iload_n C dc_O_begin_21 rfl rfl ?_
    refine th_iconst (v := 0) C dc_O_begin_22 th_c_0 ?_
    refine tq_iastN C dc_O_begin_23 rfl (fun _ => rfl) (show 0 < 1 from by omega) rfl m3 (show n3 < 5 from by omega) ?_
    refine th_gen (P := fun J => (∀ i k, J 17 i k = A 17 i k) ∧ J = th_u I4 33 0 n3 ((0 : Int32))) ⟨fun i k => (th_u_tag (by decide)).trans (fI4 i k), rfl⟩ (fun I6 fI6 => ?_)
    obtain ⟨fI6, u6⟩ := fI6
    have e7 : (0 : Int32) = I6 20 0 34 := by rw [u6, th_u_tag (by decide)]; exact e5
    have g7 : 0 = (I6 20 0 34).toInt := by rw [← e7]; exact th_l_0.symm
    have e8 : (1 : Int32) = I6 32 0 n3 := by rw [u6, th_u_tag (by decide)]; exact e4
    have g8 : 1 = (I6 32 0 n3).toInt := by rw [← e8]; exact th_l_1.symm
    have e6 : (0 : Int32) = I6 33 0 n3 := by rw [u6, th_u_eq]
    have g6 : 0 = (I6 33 0 n3).toInt := by rw [← e6]; exact th_l_0.symm
    refine th_aload_n C dc_O_begin_24 rfl rfl ?_
    refine tq_getR C dc_O_begin_25 cl_20 fd_O_31 rfl (show 0 < 1 from by omega) rfl ?_
    refine th_iload_n C dc_O_begin_28 rfl rfl ?_
    refine th_iconst (v := 0) C dc_O_begin_29 th_c_0 ?_
    refine tq_iastN C dc_O_begin_30 rfl (fun _ => rfl) (show 0 < 1 from by omega) rfl m3 (show n3 < 5 from by omega) ?_
    refine th_gen (P := fun J => (∀ i k, J 17 i k = A 17 i k) ∧ J = th_u I6 28 0 n3 ((0 : Int32))) ⟨fun i k => (th_u_tag (by decide)).trans (fI6 i k), rfl⟩ (fun I9 fI9 => ?_)
    obtain ⟨fI9, u9⟩ := fI9
    have e10 : (0 : Int32) = I9 20 0 34 := by rw [u9, th_u_tag (by decide)]; exact e7
    have g10 : 0 = (I9 20 0 34).toInt := by rw [← e10]; exact th_l_0.symm
    have e11 : (1 : Int32) = I9 32 0 n3 := by rw [u9, th_u_tag (by decide)]; exact e8
    have g11 : 1 = (I9 32 0 n3).toInt := by rw [← e11]; exact th_l_1.symm
    have e12 : (0 : Int32) = I9 33 0 n3 := by rw [u9, th_u_tag (by decide)]; exact e6
    have g12 : 0 = (I9 33 0 n3).toInt := by rw [← e12]; exact th_l_0.symm
    have e9 : (0 : Int32) = I9 28 0 n3 := by rw [u9, th_u_eq]
    have g9 : 0 = (I9 28 0 n3).toInt := by rw [← e9]; exact th_l_0.symm
    refine th_aload_n C dc_O_begin_31 rfl rfl ?_
    refine tq_getR C dc_O_begin_32 cl_20 fd_O_40 rfl (show 0 < 1 from by omega) rfl ?_
    refine th_iload_n C dc_O_begin_35 rfl rfl ?_
    refine th_iconst (v := 0) C dc_O_begin_36 th_c_0 ?_
    refine tq_iastN C dc_O_begin_37 rfl (fun _ => rfl) (show 0 < 1 from by omega) rfl m3 (show n3 < 5 from by omega) ?_
    refine th_gen (P := fun J => (∀ i k, J 17 i k = A 17 i k) ∧ J = th_u I9 31 0 n3 ((0 : Int32))) ⟨fun i k => (th_u_tag (by decide)).trans (fI9 i k), rfl⟩ (fun I13 fI13 => ?_)
    obtain ⟨fI13, u13⟩ := fI13
    have e14 : (0 : Int32) = I13 20 0 34 := by rw [u13, th_u_tag (by decide)]; exact e10
    have g14 : 0 = (I13 20 0 34).toInt := by rw [← e14]; exact th_l_0.symm
    have e15 : (1 : Int32) = I13 32 0 n3 := by rw [u13, th_u_tag (by decide)]; exact e11
    have g15 : 1 = (I13 32 0 n3).toInt := by rw [← e15]; exact th_l_1.symm
    have e16 : (0 : Int32) = I13 33 0 n3 := by rw [u13, th_u_tag (by decide)]; exact e12
    have g16 : 0 = (I13 33 0 n3).toInt := by rw [← e16]; exact th_l_0.symm
    have e17 : (0 : Int32) = I13 28 0 n3 := by rw [u13, th_u_tag (by decide)]; exact e9
    have g17 : 0 = (I13 28 0 n3).toInt := by rw [← e17]; exact th_l_0.symm
    have e13 : (0 : Int32) = I13 31 0 n3 := by rw [u13, th_u_eq]
    have g13 : 0 = (I13 31 0 n3).toInt := by rw [← e13]; exact th_l_0.symm
    refine th_aload_n C dc_O_begin_38 rfl rfl ?_
    refine tq_getR C dc_O_begin_39 cl_20 fd_O_52 rfl (show 0 < 1 from by omega) rfl ?_
    refine th_iload_n C dc_O_begin_42 rfl rfl ?_
    refine th_bipush (v := 24) C dc_O_begin_43 th_b_24 ?_
    refine tq_iastN C dc_O_begin_45 rfl (fun _ => rfl) (show 0 < 1 from by omega) rfl m3 (show n3 < 5 from by omega) ?_
    refine th_gen (P := fun J => (∀ i k, J 17 i k = A 17 i k) ∧ J = th_u I13 35 0 n3 ((24 : Int32))) ⟨fun i k => (th_u_tag (by decide)).trans (fI13 i k), rfl⟩ (fun I18 fI18 => ?_)
    obtain ⟨fI18, u18⟩ := fI18
    have e19 : (0 : Int32) = I18 20 0 34 := by rw [u18, th_u_tag (by decide)]; exact e14
    have g19 : 0 = (I18 20 0 34).toInt := by rw [← e19]; exact th_l_0.symm
    have e20 : (1 : Int32) = I18 32 0 n3 := by rw [u18, th_u_tag (by decide)]; exact e15
    have g20 : 1 = (I18 32 0 n3).toInt := by rw [← e20]; exact th_l_1.symm
    have e21 : (0 : Int32) = I18 33 0 n3 := by rw [u18, th_u_tag (by decide)]; exact e16
    have g21 : 0 = (I18 33 0 n3).toInt := by rw [← e21]; exact th_l_0.symm
    have e22 : (0 : Int32) = I18 28 0 n3 := by rw [u18, th_u_tag (by decide)]; exact e17
    have g22 : 0 = (I18 28 0 n3).toInt := by rw [← e22]; exact th_l_0.symm
    have e23 : (0 : Int32) = I18 31 0 n3 := by rw [u18, th_u_tag (by decide)]; exact e13
    have g23 : 0 = (I18 31 0 n3).toInt := by rw [← e23]; exact th_l_0.symm
    have e18 : (24 : Int32) = I18 35 0 n3 := by rw [u18, th_u_eq]
    have g18 : 24 = (I18 35 0 n3).toInt := by rw [← e18]; exact th_l_24.symm
    refine th_aload_n C dc_O_begin_46 rfl rfl ?_
    refine tq_getR C dc_O_begin_47 cl_20 fd_O_73 rfl (show 0 < 1 from by omega) rfl ?_
    refine th_iload_n C dc_O_begin_50 rfl rfl ?_
    refine th_iconst (v := 0) C dc_O_begin_51 th_c_0 ?_
    refine tq_zastN C dc_O_begin_52 rfl (fun _ => rfl) (show 0 < 1 from by omega) rfl m3 (show n3 < 5 from by omega) rfl ?_
    refine th_gen (P := fun J => (∀ i k, J 17 i k = A 17 i k) ∧ J = th_u I18 42 0 n3 ((0 : Int32))) ⟨fun i k => (th_u_tag (by decide)).trans (fI18 i k), rfl⟩ (fun I24 fI24 => ?_)
    obtain ⟨fI24, u24⟩ := fI24
    have e25 : (0 : Int32) = I24 20 0 34 := by rw [u24, th_u_tag (by decide)]; exact e19
    have g25 : 0 = (I24 20 0 34).toInt := by rw [← e25]; exact th_l_0.symm
    have e26 : (1 : Int32) = I24 32 0 n3 := by rw [u24, th_u_tag (by decide)]; exact e20
    have g26 : 1 = (I24 32 0 n3).toInt := by rw [← e26]; exact th_l_1.symm
    have e27 : (0 : Int32) = I24 33 0 n3 := by rw [u24, th_u_tag (by decide)]; exact e21
    have g27 : 0 = (I24 33 0 n3).toInt := by rw [← e27]; exact th_l_0.symm
    have e28 : (0 : Int32) = I24 28 0 n3 := by rw [u24, th_u_tag (by decide)]; exact e22
    have g28 : 0 = (I24 28 0 n3).toInt := by rw [← e28]; exact th_l_0.symm
    have e29 : (0 : Int32) = I24 31 0 n3 := by rw [u24, th_u_tag (by decide)]; exact e23
    have g29 : 0 = (I24 31 0 n3).toInt := by rw [← e29]; exact th_l_0.symm
    have e30 : (24 : Int32) = I24 35 0 n3 := by rw [u24, th_u_tag (by decide)]; exact e18
    have g30 : 24 = (I24 35 0 n3).toInt := by rw [← e30]; exact th_l_24.symm
    have e24 : (0 : Int32) = I24 42 0 n3 := by rw [u24, th_u_eq]
    have g24 : 0 = (I24 42 0 n3).toInt := by rw [← e24]; exact th_l_0.symm
    refine th_aload_n C dc_O_begin_53 rfl rfl ?_
    refine tq_getR C dc_O_begin_54 cl_20 fd_O_77 rfl (show 0 < 1 from by omega) rfl ?_
    refine th_iload_n C dc_O_begin_57 rfl rfl ?_
    refine th_iconst (v := 0) C dc_O_begin_58 th_c_0 ?_
    refine tq_zastN C dc_O_begin_59 rfl (fun _ => rfl) (show 0 < 1 from by omega) rfl m3 (show n3 < 5 from by omega) rfl ?_
    refine th_gen (P := fun J => (∀ i k, J 17 i k = A 17 i k) ∧ J = th_u I24 43 0 n3 ((0 : Int32))) ⟨fun i k => (th_u_tag (by decide)).trans (fI24 i k), rfl⟩ (fun I31 fI31 => ?_)
    obtain ⟨fI31, u31⟩ := fI31
    have e32 : (0 : Int32) = I31 20 0 34 := by rw [u31, th_u_tag (by decide)]; exact e25
    have g32 : 0 = (I31 20 0 34).toInt := by rw [← e32]; exact th_l_0.symm
    have e33 : (1 : Int32) = I31 32 0 n3 := by rw [u31, th_u_tag (by decide)]; exact e26
    have g33 : 1 = (I31 32 0 n3).toInt := by rw [← e33]; exact th_l_1.symm
    have e34 : (0 : Int32) = I31 33 0 n3 := by rw [u31, th_u_tag (by decide)]; exact e27
    have g34 : 0 = (I31 33 0 n3).toInt := by rw [← e34]; exact th_l_0.symm
    have e35 : (0 : Int32) = I31 28 0 n3 := by rw [u31, th_u_tag (by decide)]; exact e28
    have g35 : 0 = (I31 28 0 n3).toInt := by rw [← e35]; exact th_l_0.symm
    have e36 : (0 : Int32) = I31 31 0 n3 := by rw [u31, th_u_tag (by decide)]; exact e29
    have g36 : 0 = (I31 31 0 n3).toInt := by rw [← e36]; exact th_l_0.symm
    have e37 : (24 : Int32) = I31 35 0 n3 := by rw [u31, th_u_tag (by decide)]; exact e30
    have g37 : 24 = (I31 35 0 n3).toInt := by rw [← e37]; exact th_l_24.symm
    have e38 : (0 : Int32) = I31 42 0 n3 := by rw [u31, th_u_tag (by decide)]; exact e24
    have g38 : 0 = (I31 42 0 n3).toInt := by rw [← e38]; exact th_l_0.symm
    have e31 : (0 : Int32) = I31 43 0 n3 := by rw [u31, th_u_eq]
    have g31 : 0 = (I31 43 0 n3).toInt := by rw [← e31]; exact th_l_0.symm
    refine th_aload_n C dc_O_begin_60 rfl rfl ?_
    refine tq_getR C dc_O_begin_61 cl_20 fd_O_55 rfl (show 0 < 1 from by omega) rfl ?_
    refine th_iload_n C dc_O_begin_64 rfl rfl ?_
    refine th_iconst (v := 0) C dc_O_begin_65 th_c_0 ?_
    refine tq_iastN C dc_O_begin_66 rfl (fun _ => rfl) (show 0 < 1 from by omega) rfl m3 (show n3 < 5 from by omega) ?_
    refine th_gen (P := fun J => (∀ i k, J 17 i k = A 17 i k) ∧ J = th_u I31 36 0 n3 ((0 : Int32))) ⟨fun i k => (th_u_tag (by decide)).trans (fI31 i k), rfl⟩ (fun I39 fI39 => ?_)
    obtain ⟨fI39, u39⟩ := fI39
    have e40 : (0 : Int32) = I39 20 0 34 := by rw [u39, th_u_tag (by decide)]; exact e32
    have g40 : 0 = (I39 20 0 34).toInt := by rw [← e40]; exact th_l_0.symm
    have e41 : (1 : Int32) = I39 32 0 n3 := by rw [u39, th_u_tag (by decide)]; exact e33
    have g41 : 1 = (I39 32 0 n3).toInt := by rw [← e41]; exact th_l_1.symm
    have e42 : (0 : Int32) = I39 33 0 n3 := by rw [u39, th_u_tag (by decide)]; exact e34
    have g42 : 0 = (I39 33 0 n3).toInt := by rw [← e42]; exact th_l_0.symm
    have e43 : (0 : Int32) = I39 28 0 n3 := by rw [u39, th_u_tag (by decide)]; exact e35
    have g43 : 0 = (I39 28 0 n3).toInt := by rw [← e43]; exact th_l_0.symm
    have e44 : (0 : Int32) = I39 31 0 n3 := by rw [u39, th_u_tag (by decide)]; exact e36
    have g44 : 0 = (I39 31 0 n3).toInt := by rw [← e44]; exact th_l_0.symm
    have e45 : (24 : Int32) = I39 35 0 n3 := by rw [u39, th_u_tag (by decide)]; exact e37
    have g45 : 24 = (I39 35 0 n3).toInt := by rw [← e45]; exact th_l_24.symm
    have e46 : (0 : Int32) = I39 42 0 n3 := by rw [u39, th_u_tag (by decide)]; exact e38
    have g46 : 0 = (I39 42 0 n3).toInt := by rw [← e46]; exact th_l_0.symm
    have e47 : (0 : Int32) = I39 43 0 n3 := by rw [u39, th_u_tag (by decide)]; exact e31
    have g47 : 0 = (I39 43 0 n3).toInt := by rw [← e47]; exact th_l_0.symm
    have e39 : (0 : Int32) = I39 36 0 n3 := by rw [u39, th_u_eq]
    have g39 : 0 = (I39 36 0 n3).toInt := by rw [← e39]; exact th_l_0.symm
    refine th_aload_n C dc_O_begin_67 rfl rfl ?_
    refine tq_getR C dc_O_begin_68 cl_20 fd_O_58 rfl (show 0 < 1 from by omega) rfl ?_
    refine th_iload_n C dc_O_begin_71 rfl rfl ?_
    refine th_dup2 C dc_O_begin_72 ?_
    refine tq_ialdN C dc_O_begin_73 rfl (fun _ => rfl) (show 0 < 1 from by omega) rfl m3 (show n3 < 5 from by omega) (fun x48 e48 => ?_)
    have g48 : x48.toInt = (I39 37 0 n3).toInt := by rw [e48]
    refine th_iconst (v := 1) C dc_O_begin_74 th_c_1 ?_
    refine tq_iadd C dc_O_begin_75 rfl th_l_1 (fun x49 e49 a49 => ?_)
    refine tq_iastN C dc_O_begin_76 rfl (fun _ => rfl) (show 0 < 1 from by omega) rfl m3 (show n3 < 5 from by omega) ?_
    refine th_gen (P := fun J => (∀ i k, J 17 i k = A 17 i k) ∧ J = th_u I39 37 0 n3 x49) ⟨fun i k => (th_u_tag (by decide)).trans (fI39 i k), rfl⟩ (fun I50 fI50 => ?_)
    obtain ⟨fI50, u50⟩ := fI50
    have e51 : (0 : Int32) = I50 20 0 34 := by rw [u50, th_u_tag (by decide)]; exact e40
    have g51 : 0 = (I50 20 0 34).toInt := by rw [← e51]; exact th_l_0.symm
    have e52 : (1 : Int32) = I50 32 0 n3 := by rw [u50, th_u_tag (by decide)]; exact e41
    have g52 : 1 = (I50 32 0 n3).toInt := by rw [← e52]; exact th_l_1.symm
    have e53 : (0 : Int32) = I50 33 0 n3 := by rw [u50, th_u_tag (by decide)]; exact e42
    have g53 : 0 = (I50 33 0 n3).toInt := by rw [← e53]; exact th_l_0.symm
    have e54 : (0 : Int32) = I50 28 0 n3 := by rw [u50, th_u_tag (by decide)]; exact e43
    have g54 : 0 = (I50 28 0 n3).toInt := by rw [← e54]; exact th_l_0.symm
    have e55 : (0 : Int32) = I50 31 0 n3 := by rw [u50, th_u_tag (by decide)]; exact e44
    have g55 : 0 = (I50 31 0 n3).toInt := by rw [← e55]; exact th_l_0.symm
    have e56 : (24 : Int32) = I50 35 0 n3 := by rw [u50, th_u_tag (by decide)]; exact e45
    have g56 : 24 = (I50 35 0 n3).toInt := by rw [← e56]; exact th_l_24.symm
    have e57 : (0 : Int32) = I50 42 0 n3 := by rw [u50, th_u_tag (by decide)]; exact e46
    have g57 : 0 = (I50 42 0 n3).toInt := by rw [← e57]; exact th_l_0.symm
    have e58 : (0 : Int32) = I50 43 0 n3 := by rw [u50, th_u_tag (by decide)]; exact e47
    have g58 : 0 = (I50 43 0 n3).toInt := by rw [← e58]; exact th_l_0.symm
    have e59 : (0 : Int32) = I50 36 0 n3 := by rw [u50, th_u_tag (by decide)]; exact e39
    have g59 : 0 = (I50 36 0 n3).toInt := by rw [← e59]; exact th_l_0.symm
    have e50 : x49 = I50 37 0 n3 := by rw [u50, th_u_eq]
    have g50 : x49.toInt = (I50 37 0 n3).toInt := by rw [← e50]
    refine th_iconst (v := 1) C dc_O_begin_77 th_c_1 ?_
    exact th_zret C hQ dc_O_begin_78 (rfl) (by decide) (by decide) ⟨_, _, rfl, rfl, (by have := th_l_1; first | omega | (dsimp only; omega)), fI50⟩
  · exact absurd c2 (by omega)

set_option maxRecDepth 100000 in
set_option maxHeartbeats 4000000 in
theorem p_O_interrupted (l : Launch) (hl : l.stackTraces = false) {A : th_I} (I : th_I) (t : Int32) (hI : th_Of A I) (ht : 0 ≤ t.toInt ∧ t.toInt ≤ 4) : th_F l yn_O_interrupted cb_O_interrupted 2 (some .boolean) { frames := 1, cells := 0, slots := 0, locals := 21 } [.inr (some (20, 0)), .inl t] (th_m I) (th_rp I (fun x => x.toInt = 0)) := by
  refine th_of hl (by decide +kernel) (Nat.le_of_ble_eq_true rfl) (fun z C hQ hN => ?_)
  show th_G l z 2 0 [(0, .inr (some (20, 0))), (1, .inl t)] [] (th_m I) 0 0
  refine th_aload_n C dc_O_interrupted_0 rfl rfl ?_
  refine th_iload_n C dc_O_interrupted_1 rfl rfl ?_
  refine tq_callVp C (p_O_alive l hl I t hI (by omega)) ok_O_128 cl_20 (show 0 < 1 from by omega) rfl (by decide) dc_O_interrupted_2 rfl (fun x1 p1 => ?_)
  refine tq_if_ne (tgt := 10) C dc_O_interrupted_5 (by decide) rfl (fun c2 => ?_) (fun c2 => ?_)
  · exact absurd c2 (by omega)
  · refine th_iconst (v := 0) C dc_O_interrupted_8 th_c_0 ?_
    exact th_zret C hQ dc_O_interrupted_9 (rfl) (by decide) (by decide) ⟨_, rfl, rfl, (by have := th_l_0; first | omega | (dsimp only; omega))⟩

set_option maxRecDepth 100000 in
set_option maxHeartbeats 4000000 in
theorem p_O_ready (l : Launch) (hl : l.stackTraces = false) {A : th_I} (I : th_I) (hI : th_Of A I) : th_F l yn_O_ready cb_O_ready 2 (some .int) { frames := 0, cells := 0, slots := 0, locals := 0 } [.inr (some (20, 0))] (th_m I) (th_rp I (fun x => x.toInt = -1)) := by
  refine th_of hl (by decide +kernel) (Nat.le_of_ble_eq_true rfl) (fun z C hQ hN => ?_)
  show th_G l z 2 0 [(0, .inr (some (20, 0)))] [] (th_m I) 0 0
  refine th_iconst (v := 1) C dc_O_ready_0 th_c_1 ?_
  refine th_istore_n (lv' := [(0, .inr (some (20, 0))), (1, .inl ((1 : Int32)))]) C dc_O_ready_1 rfl (by decide) rfl ?_
  have L2 : ∀ (N : Nat) (k : Int32), (1 ≤ k.toInt ∧ k.toInt ≤ 6) → (6 - k.toInt).toNat < N → th_G l z 2 2 [(0, .inr (some (20, 0))), (1, .inl k)] [] (th_m I) 0 0 := by
    intro N
    induction N with
    | zero => intro k h1 hm; exact absurd hm (Nat.not_lt_zero _)
    | succ N ih =>
      intro k h1 hm
      refine th_iload_n C dc_O_ready_2 rfl rfl ?_
      refine th_bipush (v := 6) C dc_O_ready_3 th_b_6 ?_
      refine tq_icmp_ge (tgt := 50) C dc_O_ready_5 (by decide) rfl th_l_6 (fun c2 => ?_) (fun c2 => ?_)
      · refine th_iconst (v := -1) C dc_O_ready_50 th_c_m1 ?_
        exact th_iret C hQ dc_O_ready_51 (by decide) (by decide) ⟨_, rfl, rfl, (by have := th_l_m1; first | omega | (dsimp only; omega))⟩
      · refine th_aload_n C dc_O_ready_8 rfl rfl ?_
        refine tq_getR C dc_O_ready_9 cl_20 fd_O_43 rfl (show 0 < 1 from by omega) rfl ?_
        refine th_aload_n C dc_O_ready_12 rfl rfl ?_
        refine tq_getR C dc_O_ready_13 cl_20 fd_O_107 rfl (show 0 < 1 from by omega) rfl ?_
        refine th_bipush (v := 6) C dc_O_ready_16 th_b_6 ?_
        have e3 : (-1 : Int32) = I 53 0 6 := ((hI.1 53 0 6 (by decide)).trans rfl).symm
        refine tq_ialdE C dc_O_ready_18 rfl (fun _ => rfl) (show 0 < 1 from by omega) th_l_6 (by decide) (show 6 < 8 from by omega) e3 ?_
        refine th_iload_n C dc_O_ready_19 rfl rfl ?_
        refine tq_iadd C dc_O_ready_20 th_l_m1 rfl (fun x4 e4 a4 => ?_)
        refine th_iconst (v := 5) C dc_O_ready_21 th_c_5 ?_
        refine tq_iadd C dc_O_ready_22 rfl th_l_5 (fun x5 e5 a5 => ?_)
        refine th_iconst (v := 5) C dc_O_ready_23 th_c_5 ?_
        refine th_irem C dc_O_ready_24 (by decide) ?_
        obtain ⟨x6, e6⟩ : ∃ r : Int32, r = x5 - x5 / (5 : Int32) * (5 : Int32) := ⟨_, rfl⟩
        rw [← e6]
        have a6 := th_rem5 (x := x5) (by omega) (by omega)
        rw [← e6] at a6
        obtain ⟨n8, m8⟩ := th_nat (a := x6.toInt) (by omega)
        have e7 : (0 : Int32) = I 32 0 n8 := ((hI.1 32 0 n8 (by decide)).trans rfl).symm
        refine tq_ialdE C dc_O_ready_25 rfl (fun _ => rfl) (show 0 < 1 from by omega) rfl m8 (show n8 < 5 from by omega) e7 ?_
        refine th_iconst (v := 1) C dc_O_ready_26 th_c_1 ?_
        refine tq_icmp_ne (tgt := 44) C dc_O_ready_27 (by decide) th_l_0 th_l_1 (fun c9 => ?_) (fun c9 => ?_)
        · refine tq_iinc (lv' := fun rr => [(0, .inr (some (20, 0))), (1, .inl rr)]) C dc_O_ready_44 rfl (by decide) th_c_1 rfl th_l_1 (fun rr => rfl) (fun x10 e10 a10 => ?_)
          refine th_goto (tgt := 2) C dc_O_ready_47 (by decide) ?_
          exact ih x10 (by omega) (by omega)
        · exact absurd c9 (by decide)
  exact L2 _ ((1 : Int32)) (by have := th_l_1; omega) (Nat.lt_succ_self _)

set_option maxRecDepth 100000 in
set_option maxHeartbeats 4000000 in
theorem p_O_add (l : Launch) (hl : l.stackTraces = false) {A : th_I} (I : th_I) (t : Int32) (o : Int32) (a : Int32) (b : Int32) (hI : th_Of A I) : th_F l yn_O_add cb_O_add 6 (some .int) { frames := 2, cells := 0, slots := 0, locals := 44 } [.inr (some (20, 0)), .inl t, .inl o, .inl a, .inl b] (th_m I) (th_ri (fun x J => (((0 ≤ t.toInt ∧ t.toInt ≤ 4 ∧ th_valid o.toInt a.toInt b.toInt) ∧ x.toInt = 1 ∧ (J 20 0 34).toInt = 0) ∨ (¬ (0 ≤ t.toInt ∧ t.toInt ≤ 4 ∧ th_valid o.toInt a.toInt b.toInt) ∧ (J 20 0 34).toInt = 1)) ∧ ∀ i k, J 17 i k = A 17 i k)) := by
  refine th_of hl (by decide +kernel) (Nat.le_of_ble_eq_true rfl) (fun z C hQ hN => ?_)
  show th_G l z 6 0 [(0, .inr (some (20, 0))), (1, .inl t), (2, .inl o), (3, .inl a), (4, .inl b)] [] (th_m I) 0 0
  refine th_aload_n C dc_O_add_0 rfl rfl ?_
  refine th_iconst (v := 0) C dc_O_add_1 th_c_0 ?_
  refine tq_putI C dc_O_add_2 cl_20 fd_O_114 rfl (show 0 < 1 from by omega) rfl rfl ?_
  refine th_gen (P := fun J => th_Of A J ∧ J = th_u I 20 0 34 ((0 : Int32))) ⟨th_oput hI (by decide) rfl, rfl⟩ (fun I1 hI1 => ?_)
  obtain ⟨hI1, u1⟩ := hI1
  have e1 : (0 : Int32) = I1 20 0 34 := by rw [u1, th_u_eq]
  have g1 : 0 = (I1 20 0 34).toInt := by rw [← e1]; exact th_l_0.symm
  refine th_iload_n C dc_O_add_5 rfl rfl ?_
  refine th_iconst (v := 0) C dc_O_add_6 th_c_0 ?_
  refine th_iconst (v := 4) C dc_O_add_7 th_c_4 ?_
  refine tq_callSp C (p_O_is l hl I1 t ((0 : Int32)) ((4 : Int32))) ok_O_117 rfl (by decide) dc_O_add_8 rfl (fun x2 p2 => ?_)
  try simp only [th_l_0, th_l_4] at p2
  refine tq_if_eq (tgt := 24) C dc_O_add_11 (by decide) rfl (fun c3 => ?_) (fun c3 => ?_)
  · refine th_aload_n C dc_O_add_24 rfl rfl ?_
    refine th_iconst (v := 1) C dc_O_add_25 th_c_1 ?_
    refine tq_callVi C (p_O_refuse l hl I1 ((1 : Int32)) hI1) ok_O_124 cl_20 (show 0 < 1 from by omega) rfl (by decide) dc_O_add_26 rfl (fun x4 I4 p4 => ?_)
    obtain ⟨p4, fI4⟩ := p4
    try simp only [th_l_1] at p4
    exact th_iret C hQ dc_O_add_29 (by decide) (by decide) ⟨_, _, rfl, rfl, Or.inr ⟨fun q => by omega, by omega⟩, fI4⟩
  · refine th_iload_n C dc_O_add_14 rfl rfl ?_
    refine th_iload_n C dc_O_add_15 rfl rfl ?_
    refine th_iload C dc_O_add_16 rfl ?_
    refine tq_callSp C (p_O_fits l hl I1 o a b) ok_O_121 rfl (by decide) dc_O_add_18 rfl (fun x5 p5 => ?_)
    refine tq_if_ne (tgt := 30) C dc_O_add_21 (by decide) rfl (fun c6 => ?_) (fun c6 => ?_)
    · refine th_aload_n C dc_O_add_30 rfl rfl ?_
      refine th_iload_n C dc_O_add_31 rfl rfl ?_
      refine tq_callVp C (p_O_alive l hl I1 t hI1 (by omega)) ok_O_128 cl_20 (show 0 < 1 from by omega) rfl (by decide) dc_O_add_32 rfl (fun x7 p7 => ?_)
      refine tq_if_eq (tgt := 44) C dc_O_add_35 (by decide) rfl (fun c8 => ?_) (fun c8 => ?_)
      · refine th_aload_n C dc_O_add_44 rfl rfl ?_
        refine tq_getR C dc_O_add_45 cl_20 fd_O_19 rfl (show 0 < 1 from by omega) rfl ?_
        refine th_iload_n C dc_O_add_48 rfl rfl ?_
        obtain ⟨n10, m10⟩ := th_nat (a := t.toInt) (by omega)
        have e9 : (0 : Int32) = I1 24 0 n10 := ((hI1.1 24 0 n10 (by decide)).trans rfl).symm
        refine tq_ialdE C dc_O_add_49 rfl (fun _ => rfl) (show 0 < 1 from by omega) rfl m10 (show n10 < 5 from by omega) e9 ?_
        refine th_bipush (v := 24) C dc_O_add_50 th_b_24 ?_
        refine tq_icmp_ne (tgt := 61) C dc_O_add_52 (by decide) th_l_0 th_l_24 (fun c11 => ?_) (fun c11 => ?_)
        · refine th_bipush (v := 24) C dc_O_add_61 th_b_24 ?_
          refine th_iload_n C dc_O_add_63 rfl rfl ?_
          refine tq_imul C dc_O_add_64 th_l_24 rfl (fun x12 e12 a12 => ?_)
          refine th_aload_n C dc_O_add_65 rfl rfl ?_
          refine tq_getR C dc_O_add_66 cl_20 fd_O_19 rfl (show 0 < 1 from by omega) rfl ?_
          refine th_iload_n C dc_O_add_69 rfl rfl ?_
          refine tq_ialdE C dc_O_add_70 rfl (fun _ => rfl) (show 0 < 1 from by omega) rfl m10 (show n10 < 5 from by omega) e9 ?_
          refine tq_iadd C dc_O_add_71 rfl th_l_0 (fun x14 e14 a14 => ?_)
          refine th_istore (lv' := [(0, .inr (some (20, 0))), (1, .inl t), (2, .inl o), (3, .inl a), (4, .inl b), (5, .inl x14)]) C dc_O_add_72 (by decide) rfl ?_
          refine th_aload_n C dc_O_add_74 rfl rfl ?_
          refine tq_getR C dc_O_add_75 cl_20 fd_O_7 rfl (show 0 < 1 from by omega) rfl ?_
          refine th_iload C dc_O_add_78 rfl ?_
          refine th_iload_n C dc_O_add_80 rfl rfl ?_
          obtain ⟨n15, m15⟩ := th_nat (a := x14.toInt) (by omega)
          refine tq_iastN C dc_O_add_81 rfl (fun _ => rfl) (show 0 < 1 from by omega) rfl m15 (show n15 < 120 from by omega) ?_
          refine th_gen (P := fun J => (∀ i k, J 17 i k = A 17 i k) ∧ J = th_u I1 21 0 n15 o) ⟨fun i k => (th_u_tag (by decide)).trans (hI1.2 i k), rfl⟩ (fun I16 fI16 => ?_)
          obtain ⟨fI16, u16⟩ := fI16
          have e17 : (0 : Int32) = I16 20 0 34 := by rw [u16, th_u_tag (by decide)]; exact e1
          have g17 : 0 = (I16 20 0 34).toInt := by rw [← e17]; exact th_l_0.symm
          have e18 : (0 : Int32) = I16 24 0 n10 := by rw [u16, th_u_tag (by decide)]; exact e9
          have g18 : 0 = (I16 24 0 n10).toInt := by rw [← e18]; exact th_l_0.symm
          have e16 : o = I16 21 0 n15 := by rw [u16, th_u_eq]
          have g16 : o.toInt = (I16 21 0 n15).toInt := by rw [← e16]
          refine th_aload_n C dc_O_add_82 rfl rfl ?_
          refine tq_getR C dc_O_add_83 cl_20 fd_O_13 rfl (show 0 < 1 from by omega) rfl ?_
          refine th_iload C dc_O_add_86 rfl ?_
          refine th_iload_n C dc_O_add_88 rfl rfl ?_
          refine tq_iastN C dc_O_add_89 rfl (fun _ => rfl) (show 0 < 1 from by omega) rfl m15 (show n15 < 120 from by omega) ?_
          refine th_gen (P := fun J => (∀ i k, J 17 i k = A 17 i k) ∧ J = th_u I16 22 0 n15 a) ⟨fun i k => (th_u_tag (by decide)).trans (fI16 i k), rfl⟩ (fun I19 fI19 => ?_)
          obtain ⟨fI19, u19⟩ := fI19
          have e20 : (0 : Int32) = I19 20 0 34 := by rw [u19, th_u_tag (by decide)]; exact e17
          have g20 : 0 = (I19 20 0 34).toInt := by rw [← e20]; exact th_l_0.symm
          have e21 : (0 : Int32) = I19 24 0 n10 := by rw [u19, th_u_tag (by decide)]; exact e18
          have g21 : 0 = (I19 24 0 n10).toInt := by rw [← e21]; exact th_l_0.symm
          have e22 : o = I19 21 0 n15 := by rw [u19, th_u_tag (by decide)]; exact e16
          have g22 : o.toInt = (I19 21 0 n15).toInt := by rw [← e22]
          have e19 : a = I19 22 0 n15 := by rw [u19, th_u_eq]
          have g19 : a.toInt = (I19 22 0 n15).toInt := by rw [← e19]
          refine th_aload_n C dc_O_add_90 rfl rfl ?_
          refine tq_getR C dc_O_add_91 cl_20 fd_O_16 rfl (show 0 < 1 from by omega) rfl ?_
          refine th_iload C dc_O_add_94 rfl ?_
          refine th_iload C dc_O_add_96 rfl ?_
          refine tq_iastN C dc_O_add_98 rfl (fun _ => rfl) (show 0 < 1 from by omega) rfl m15 (show n15 < 120 from by omega) ?_
          refine th_gen (P := fun J => (∀ i k, J 17 i k = A 17 i k) ∧ J = th_u I19 23 0 n15 b) ⟨fun i k => (th_u_tag (by decide)).trans (fI19 i k), rfl⟩ (fun I23 fI23 => ?_)
          obtain ⟨fI23, u23⟩ := fI23
          have e24 : (0 : Int32) = I23 20 0 34 := by rw [u23, th_u_tag (by decide)]; exact e20
          have g24 : 0 = (I23 20 0 34).toInt := by rw [← e24]; exact th_l_0.symm
          have e25 : (0 : Int32) = I23 24 0 n10 := by rw [u23, th_u_tag (by decide)]; exact e21
          have g25 : 0 = (I23 24 0 n10).toInt := by rw [← e25]; exact th_l_0.symm
          have e26 : o = I23 21 0 n15 := by rw [u23, th_u_tag (by decide)]; exact e22
          have g26 : o.toInt = (I23 21 0 n15).toInt := by rw [← e26]
          have e27 : a = I23 22 0 n15 := by rw [u23, th_u_tag (by decide)]; exact e19
          have g27 : a.toInt = (I23 22 0 n15).toInt := by rw [← e27]
          have e23 : b = I23 23 0 n15 := by rw [u23, th_u_eq]
          have g23 : b.toInt = (I23 23 0 n15).toInt := by rw [← e23]
          refine th_aload_n C dc_O_add_99 rfl rfl ?_
          refine tq_getR C dc_O_add_100 cl_20 fd_O_19 rfl (show 0 < 1 from by omega) rfl ?_
          refine th_iload_n C dc_O_add_103 rfl rfl ?_
          refine th_dup2 C dc_O_add_104 ?_
          refine tq_ialdE C dc_O_add_105 rfl (fun _ => rfl) (show 0 < 1 from by omega) rfl m10 (show n10 < 5 from by omega) e25 ?_
          refine th_iconst (v := 1) C dc_O_add_106 th_c_1 ?_
          refine tq_iadd C dc_O_add_107 th_l_0 th_l_1 (fun x29 e29 a29 => ?_)
          refine th_dup_x2 C dc_O_add_108 ?_
          refine tq_iastN C dc_O_add_109 rfl (fun _ => rfl) (show 0 < 1 from by omega) rfl m10 (show n10 < 5 from by omega) ?_
          refine th_gen (P := fun J => (∀ i k, J 17 i k = A 17 i k) ∧ J = th_u I23 24 0 n10 x29) ⟨fun i k => (th_u_tag (by decide)).trans (fI23 i k), rfl⟩ (fun I30 fI30 => ?_)
          obtain ⟨fI30, u30⟩ := fI30
          have e31 : (0 : Int32) = I30 20 0 34 := by rw [u30, th_u_tag (by decide)]; exact e24
          have g31 : 0 = (I30 20 0 34).toInt := by rw [← e31]; exact th_l_0.symm
          have e32 : o = I30 21 0 n15 := by rw [u30, th_u_tag (by decide)]; exact e26
          have g32 : o.toInt = (I30 21 0 n15).toInt := by rw [← e32]
          have e33 : a = I30 22 0 n15 := by rw [u30, th_u_tag (by decide)]; exact e27
          have g33 : a.toInt = (I30 22 0 n15).toInt := by rw [← e33]
          have e34 : b = I30 23 0 n15 := by rw [u30, th_u_tag (by decide)]; exact e23
          have g34 : b.toInt = (I30 23 0 n15).toInt := by rw [← e34]
          have e30 : x29 = I30 24 0 n10 := by rw [u30, th_u_eq]
          have g30 : x29.toInt = (I30 24 0 n10).toInt := by rw [← e30]
          exact th_iret C hQ dc_O_add_110 (by decide) (by decide) ⟨_, _, rfl, rfl, Or.inl ⟨⟨by omega, by omega, (p5.resolve_right (fun q => absurd q.1 (by omega))).2⟩, by omega, by omega⟩, fI30⟩
        · exact absurd c11 (by decide)
      · refine th_aload_n C dc_O_add_38 rfl rfl ?_
        refine th_iconst (v := 2) C dc_O_add_39 th_c_2 ?_
        refine tq_callVi C (p_O_refuse l hl I1 ((2 : Int32)) hI1) ok_O_124 cl_20 (show 0 < 1 from by omega) rfl (by decide) dc_O_add_40 rfl (fun x35 I35 p35 => ?_)
        obtain ⟨p35, fI35⟩ := p35
        try simp only [th_l_2] at p35
        exact th_iret C hQ dc_O_add_43 (by decide) (by decide) ⟨_, _, rfl, rfl, (by first | exact Or.inr ⟨fun q => by omega, by omega⟩ | exact Or.inr ⟨fun q => absurd q.2.2 (p5.resolve_left (fun q => absurd q.1 (by omega))).2, by omega⟩), fI35⟩
    · refine th_aload_n C dc_O_add_24 rfl rfl ?_
      refine th_iconst (v := 1) C dc_O_add_25 th_c_1 ?_
      refine tq_callVi C (p_O_refuse l hl I1 ((1 : Int32)) hI1) ok_O_124 cl_20 (show 0 < 1 from by omega) rfl (by decide) dc_O_add_26 rfl (fun x36 I36 p36 => ?_)
      obtain ⟨p36, fI36⟩ := p36
      try simp only [th_l_1] at p36
      exact th_iret C hQ dc_O_add_29 (by decide) (by decide) ⟨_, _, rfl, rfl, (by first | exact Or.inr ⟨fun q => by omega, by omega⟩ | exact Or.inr ⟨fun q => absurd q.2.2 (p5.resolve_left (fun q => absurd q.1 (by omega))).2, by omega⟩), fI36⟩

set_option maxRecDepth 100000 in
set_option maxHeartbeats 4000000 in
theorem p_O_clear (l : Launch) (hl : l.stackTraces = false) {A : th_I} (I : th_I) (t : Int32) (hI : th_Of A I) : th_F l yn_O_clear cb_O_clear 3 (some .int) { frames := 1, cells := 0, slots := 0, locals := 22 } [.inr (some (20, 0)), .inl t] (th_m I) (th_ri (fun x J => (((0 ≤ t.toInt ∧ t.toInt ≤ 4) ∧ x.toInt = 0 ∧ (J 20 0 34).toInt = 0) ∨ (¬ (0 ≤ t.toInt ∧ t.toInt ≤ 4) ∧ (J 20 0 34).toInt = 1)) ∧ ∀ i k, J 17 i k = A 17 i k)) := by
  refine th_of hl (by decide +kernel) (Nat.le_of_ble_eq_true rfl) (fun z C hQ hN => ?_)
  show th_G l z 3 0 [(0, .inr (some (20, 0))), (1, .inl t)] [] (th_m I) 0 0
  refine th_aload_n C dc_O_clear_0 rfl rfl ?_
  refine th_iconst (v := 0) C dc_O_clear_1 th_c_0 ?_
  refine tq_putI C dc_O_clear_2 cl_20 fd_O_114 rfl (show 0 < 1 from by omega) rfl rfl ?_
  refine th_gen (P := fun J => th_Of A J ∧ J = th_u I 20 0 34 ((0 : Int32))) ⟨th_oput hI (by decide) rfl, rfl⟩ (fun I1 hI1 => ?_)
  obtain ⟨hI1, u1⟩ := hI1
  have e1 : (0 : Int32) = I1 20 0 34 := by rw [u1, th_u_eq]
  have g1 : 0 = (I1 20 0 34).toInt := by rw [← e1]; exact th_l_0.symm
  refine th_iload_n C dc_O_clear_5 rfl rfl ?_
  refine th_iconst (v := 0) C dc_O_clear_6 th_c_0 ?_
  refine th_iconst (v := 4) C dc_O_clear_7 th_c_4 ?_
  refine tq_callSp C (p_O_is l hl I1 t ((0 : Int32)) ((4 : Int32))) ok_O_117 rfl (by decide) dc_O_clear_8 rfl (fun x2 p2 => ?_)
  try simp only [th_l_0, th_l_4] at p2
  refine tq_if_ne (tgt := 20) C dc_O_clear_11 (by decide) rfl (fun c3 => ?_) (fun c3 => ?_)
  · refine th_aload_n C dc_O_clear_20 rfl rfl ?_
    refine th_iload_n C dc_O_clear_21 rfl rfl ?_
    refine tq_callVp C (p_O_alive l hl I1 t hI1 (by omega)) ok_O_128 cl_20 (show 0 < 1 from by omega) rfl (by decide) dc_O_clear_22 rfl (fun x4 p4 => ?_)
    refine tq_if_eq (tgt := 34) C dc_O_clear_25 (by decide) rfl (fun c5 => ?_) (fun c5 => ?_)
    · refine th_aload_n C dc_O_clear_34 rfl rfl ?_
      refine tq_getR C dc_O_clear_35 cl_20 fd_O_19 rfl (show 0 < 1 from by omega) rfl ?_
      refine th_iload_n C dc_O_clear_38 rfl rfl ?_
      obtain ⟨n7, m7⟩ := th_nat (a := t.toInt) (by omega)
      have e6 : (0 : Int32) = I1 24 0 n7 := ((hI1.1 24 0 n7 (by decide)).trans rfl).symm
      refine tq_ialdE C dc_O_clear_39 rfl (fun _ => rfl) (show 0 < 1 from by omega) rfl m7 (show n7 < 5 from by omega) e6 ?_
      refine th_istore_n (lv' := [(0, .inr (some (20, 0))), (1, .inl t), (2, .inl ((0 : Int32)))]) C dc_O_clear_40 rfl (by decide) rfl ?_
      refine th_aload_n C dc_O_clear_41 rfl rfl ?_
      refine tq_getR C dc_O_clear_42 cl_20 fd_O_19 rfl (show 0 < 1 from by omega) rfl ?_
      refine th_iload_n C dc_O_clear_45 rfl rfl ?_
      refine th_iconst (v := 0) C dc_O_clear_46 th_c_0 ?_
      refine tq_iastN C dc_O_clear_47 rfl (fun _ => rfl) (show 0 < 1 from by omega) rfl m7 (show n7 < 5 from by omega) ?_
      refine th_gen (P := fun J => th_Of A J ∧ J = th_u I1 24 0 n7 ((0 : Int32))) ⟨th_oput hI1 (by decide) rfl, rfl⟩ (fun I8 hI8 => ?_)
      obtain ⟨hI8, u8⟩ := hI8
      have e9 : (0 : Int32) = I8 20 0 34 := by rw [u8, th_u_tag (by decide)]; exact e1
      have g9 : 0 = (I8 20 0 34).toInt := by rw [← e9]; exact th_l_0.symm
      have e8 : (0 : Int32) = I8 24 0 n7 := by rw [u8, th_u_eq]
      have g8 : 0 = (I8 24 0 n7).toInt := by rw [← e8]; exact th_l_0.symm
      refine th_iload_n C dc_O_clear_48 rfl rfl ?_
      exact th_iret C hQ dc_O_clear_49 (by decide) (by decide) ⟨_, _, rfl, rfl, (by have := th_l_0; first | omega | (dsimp only; omega)), hI8.2⟩
    · refine th_aload_n C dc_O_clear_28 rfl rfl ?_
      refine th_iconst (v := 2) C dc_O_clear_29 th_c_2 ?_
      refine tq_callVi C (p_O_refuse l hl I1 ((2 : Int32)) hI1) ok_O_124 cl_20 (show 0 < 1 from by omega) rfl (by decide) dc_O_clear_30 rfl (fun x10 I10 p10 => ?_)
      obtain ⟨p10, fI10⟩ := p10
      try simp only [th_l_2] at p10
      exact th_iret C hQ dc_O_clear_33 (by decide) (by decide) ⟨_, _, rfl, rfl, (by first | omega | (dsimp only; omega)), fI10⟩
  · refine th_aload_n C dc_O_clear_14 rfl rfl ?_
    refine th_iconst (v := 1) C dc_O_clear_15 th_c_1 ?_
    refine tq_callVi C (p_O_refuse l hl I1 ((1 : Int32)) hI1) ok_O_124 cl_20 (show 0 < 1 from by omega) rfl (by decide) dc_O_clear_16 rfl (fun x11 I11 p11 => ?_)
    obtain ⟨p11, fI11⟩ := p11
    try simp only [th_l_1] at p11
    exact th_iret C hQ dc_O_clear_19 (by decide) (by decide) ⟨_, _, rfl, rfl, (by first | omega | (dsimp only; omega)), fI11⟩

set_option maxRecDepth 100000 in
set_option maxHeartbeats 4000000 in
theorem p_O_start (l : Launch) (hl : l.stackTraces = false) {A : th_I} (I : th_I) (t : Int32) (hI : th_Of A I) : th_F l yn_O_start cb_O_start 2 (some .int) { frames := 2, cells := 0, slots := 0, locals := 42 } [.inr (some (20, 0)), .inl t] (th_m I) (th_ri (fun x J => (((0 ≤ t.toInt ∧ t.toInt ≤ 4) ∧ x.toInt = 1 ∧ (J 20 0 34).toInt = 0) ∨ (¬ (0 ≤ t.toInt ∧ t.toInt ≤ 4) ∧ (J 20 0 34).toInt = 1)) ∧ ∀ i k, J 17 i k = A 17 i k)) := by
  refine th_of hl (by decide +kernel) (Nat.le_of_ble_eq_true rfl) (fun z C hQ hN => ?_)
  show th_G l z 2 0 [(0, .inr (some (20, 0))), (1, .inl t)] [] (th_m I) 0 0
  refine th_aload_n C dc_O_start_0 rfl rfl ?_
  refine th_iconst (v := 0) C dc_O_start_1 th_c_0 ?_
  refine tq_putI C dc_O_start_2 cl_20 fd_O_114 rfl (show 0 < 1 from by omega) rfl rfl ?_
  refine th_gen (P := fun J => th_Of A J ∧ J = th_u I 20 0 34 ((0 : Int32))) ⟨th_oput hI (by decide) rfl, rfl⟩ (fun I1 hI1 => ?_)
  obtain ⟨hI1, u1⟩ := hI1
  have e1 : (0 : Int32) = I1 20 0 34 := by rw [u1, th_u_eq]
  have g1 : 0 = (I1 20 0 34).toInt := by rw [← e1]; exact th_l_0.symm
  refine th_iload_n C dc_O_start_5 rfl rfl ?_
  refine th_iconst (v := 0) C dc_O_start_6 th_c_0 ?_
  refine th_iconst (v := 4) C dc_O_start_7 th_c_4 ?_
  refine tq_callSp C (p_O_is l hl I1 t ((0 : Int32)) ((4 : Int32))) ok_O_117 rfl (by decide) dc_O_start_8 rfl (fun x2 p2 => ?_)
  try simp only [th_l_0, th_l_4] at p2
  refine tq_if_ne (tgt := 20) C dc_O_start_11 (by decide) rfl (fun c3 => ?_) (fun c3 => ?_)
  · refine th_aload_n C dc_O_start_20 rfl rfl ?_
    refine th_iload_n C dc_O_start_21 rfl rfl ?_
    refine tq_callVi C (p_O_begin l hl I1 t hI1 (by omega)) ok_O_179 cl_20 (show 0 < 1 from by omega) rfl (by decide) dc_O_start_22 rfl (fun x4 I4 p4 => ?_)
    obtain ⟨p4, fI4⟩ := p4
    refine tq_if_eq (tgt := 32) C dc_O_start_25 (by decide) rfl (fun c5 => ?_) (fun c5 => ?_)
    · refine th_iconst (v := 0) C dc_O_start_32 th_c_0 ?_
      exact th_iret C hQ dc_O_start_33 (by decide) (by decide) ⟨_, _, rfl, rfl, (by have := th_l_0; first | omega | (dsimp only; omega)), fI4⟩
    · refine th_iconst (v := 1) C dc_O_start_28 th_c_1 ?_
      refine th_goto (tgt := 33) C dc_O_start_29 (by decide) ?_
      exact th_iret C hQ dc_O_start_33 (by decide) (by decide) ⟨_, _, rfl, rfl, (by have := th_l_1; first | omega | (dsimp only; omega)), fI4⟩
  · refine th_aload_n C dc_O_start_14 rfl rfl ?_
    refine th_iconst (v := 1) C dc_O_start_15 th_c_1 ?_
    refine tq_callVi C (p_O_refuse l hl I1 ((1 : Int32)) hI1) ok_O_124 cl_20 (show 0 < 1 from by omega) rfl (by decide) dc_O_start_16 rfl (fun x6 I6 p6 => ?_)
    obtain ⟨p6, fI6⟩ := p6
    try simp only [th_l_1] at p6
    exact th_iret C hQ dc_O_start_19 (by decide) (by decide) ⟨_, _, rfl, rfl, (by first | omega | (dsimp only; omega)), fI6⟩

set_option maxRecDepth 100000 in
set_option maxHeartbeats 4000000 in
theorem p_O_run (l : Launch) (hl : l.stackTraces = false) {A : th_I} (I : th_I) (n : Int32) (hI : th_Of A I) : th_F l yn_O_run cb_O_run 4 (some .int) { frames := 1, cells := 0, slots := 0, locals := 22 } [.inr (some (20, 0)), .inl n] (th_m I) (th_ri (fun x J => (((1 ≤ n.toInt ∧ n.toInt ≤ 40) ∧ x.toInt = 0 ∧ (J 20 0 34).toInt = 0) ∨ (¬ (1 ≤ n.toInt ∧ n.toInt ≤ 40) ∧ (J 20 0 34).toInt = 1)) ∧ ∀ i k, J 17 i k = A 17 i k)) := by
  refine th_of hl (by decide +kernel) (Nat.le_of_ble_eq_true rfl) (fun z C hQ hN => ?_)
  show th_G l z 4 0 [(0, .inr (some (20, 0))), (1, .inl n)] [] (th_m I) 0 0
  refine th_aload_n C dc_O_run_0 rfl rfl ?_
  refine th_iconst (v := 0) C dc_O_run_1 th_c_0 ?_
  refine tq_putI C dc_O_run_2 cl_20 fd_O_114 rfl (show 0 < 1 from by omega) rfl rfl ?_
  refine th_gen (P := fun J => th_Of A J ∧ J = th_u I 20 0 34 ((0 : Int32))) ⟨th_oput hI (by decide) rfl, rfl⟩ (fun I1 hI1 => ?_)
  obtain ⟨hI1, u1⟩ := hI1
  have e1 : (0 : Int32) = I1 20 0 34 := by rw [u1, th_u_eq]
  have g1 : 0 = (I1 20 0 34).toInt := by rw [← e1]; exact th_l_0.symm
  refine th_iload_n C dc_O_run_5 rfl rfl ?_
  refine th_iconst (v := 1) C dc_O_run_6 th_c_1 ?_
  refine th_bipush (v := 40) C dc_O_run_7 th_b_40 ?_
  refine tq_callSp C (p_O_is l hl I1 n ((1 : Int32)) ((40 : Int32))) ok_O_117 rfl (by decide) dc_O_run_9 rfl (fun x2 p2 => ?_)
  try simp only [th_l_1, th_l_40] at p2
  refine tq_if_ne (tgt := 21) C dc_O_run_12 (by decide) rfl (fun c3 => ?_) (fun c3 => ?_)
  · refine th_aload_n C dc_O_run_21 rfl rfl ?_
    refine tq_getR C dc_O_run_22 cl_20 fd_O_107 rfl (show 0 < 1 from by omega) rfl ?_
    refine th_iconst (v := 1) C dc_O_run_25 th_c_1 ?_
    have e4 : (0 : Int32) = I1 53 0 1 := ((hI1.1 53 0 1 (by decide)).trans rfl).symm
    refine tq_ialdE C dc_O_run_26 rfl (fun _ => rfl) (show 0 < 1 from by omega) th_l_1 (by decide) (show 1 < 8 from by omega) e4 ?_
    refine th_istore_n (lv' := [(0, .inr (some (20, 0))), (1, .inl n), (2, .inl ((0 : Int32)))]) C dc_O_run_27 rfl (by decide) rfl ?_
    refine th_iconst (v := 0) C dc_O_run_28 th_c_0 ?_
    refine th_istore_n (lv' := [(0, .inr (some (20, 0))), (1, .inl n), (2, .inl ((0 : Int32))), (3, .inl ((0 : Int32)))]) C dc_O_run_29 rfl (by decide) rfl ?_
    refine th_iload_n C dc_O_run_30 rfl rfl ?_
    refine th_iload_n C dc_O_run_31 rfl rfl ?_
    refine tq_icmp_ge (tgt := 56) C dc_O_run_32 (by decide) th_l_0 rfl (fun c5 => ?_) (fun c5 => ?_)
    · exact absurd c5 (by omega)
    · refine th_aload_n C dc_O_run_35 rfl rfl ?_
      refine tq_callVp C (p_O_ready l hl I1 hI1) ok_O_192 cl_20 (show 0 < 1 from by omega) rfl (by decide) dc_O_run_36 rfl (fun x6 p6 => ?_)
      refine tq_if_lt (tgt := 56) C dc_O_run_39 (by decide) rfl (fun c7 => ?_) (fun c7 => ?_)
      · refine th_aload_n C dc_O_run_56 rfl rfl ?_
        refine tq_getR C dc_O_run_57 cl_20 fd_O_107 rfl (show 0 < 1 from by omega) rfl ?_
        refine th_iconst (v := 1) C dc_O_run_60 th_c_1 ?_
        refine tq_ialdE C dc_O_run_61 rfl (fun _ => rfl) (show 0 < 1 from by omega) th_l_1 (by decide) (show 1 < 8 from by omega) e4 ?_
        refine th_iload_n C dc_O_run_62 rfl rfl ?_
        refine tq_isub C dc_O_run_63 th_l_0 th_l_0 (fun x9 e9 a9 => ?_)
        exact th_iret C hQ dc_O_run_64 (by decide) (by decide) ⟨_, _, rfl, rfl, (by first | omega | (dsimp only; omega)), hI1.2⟩
      · exact absurd c7 (by omega)
  · refine th_aload_n C dc_O_run_15 rfl rfl ?_
    refine th_iconst (v := 1) C dc_O_run_16 th_c_1 ?_
    refine tq_callVi C (p_O_refuse l hl I1 ((1 : Int32)) hI1) ok_O_124 cl_20 (show 0 < 1 from by omega) rfl (by decide) dc_O_run_17 rfl (fun x10 I10 p10 => ?_)
    obtain ⟨p10, fI10⟩ := p10
    try simp only [th_l_1] at p10
    exact th_iret C hQ dc_O_run_20 (by decide) (by decide) ⟨_, _, rfl, rfl, (by first | omega | (dsimp only; omega)), fI10⟩

set_option maxRecDepth 100000 in
set_option maxHeartbeats 4000000 in
theorem p_O_interrupt (l : Launch) (hl : l.stackTraces = false) {A : th_I} (I : th_I) (t : Int32) (hI : th_Of A I) : th_F l yn_O_interrupt cb_O_interrupt 2 (some .int) { frames := 2, cells := 0, slots := 0, locals := 42 } [.inr (some (20, 0)), .inl t] (th_m I) (th_ri (fun x J => (((0 ≤ t.toInt ∧ t.toInt ≤ 4) ∧ x.toInt = 0 ∧ (J 20 0 34).toInt = 0) ∨ (¬ (0 ≤ t.toInt ∧ t.toInt ≤ 4) ∧ (J 20 0 34).toInt = 1)) ∧ ∀ i k, J 17 i k = A 17 i k)) := by
  refine th_of hl (by decide +kernel) (Nat.le_of_ble_eq_true rfl) (fun z C hQ hN => ?_)
  show th_G l z 2 0 [(0, .inr (some (20, 0))), (1, .inl t)] [] (th_m I) 0 0
  refine th_aload_n C dc_O_interrupt_0 rfl rfl ?_
  refine th_iconst (v := 0) C dc_O_interrupt_1 th_c_0 ?_
  refine tq_putI C dc_O_interrupt_2 cl_20 fd_O_114 rfl (show 0 < 1 from by omega) rfl rfl ?_
  refine th_gen (P := fun J => th_Of A J ∧ J = th_u I 20 0 34 ((0 : Int32))) ⟨th_oput hI (by decide) rfl, rfl⟩ (fun I1 hI1 => ?_)
  obtain ⟨hI1, u1⟩ := hI1
  have e1 : (0 : Int32) = I1 20 0 34 := by rw [u1, th_u_eq]
  have g1 : 0 = (I1 20 0 34).toInt := by rw [← e1]; exact th_l_0.symm
  refine th_iload_n C dc_O_interrupt_5 rfl rfl ?_
  refine th_iconst (v := 0) C dc_O_interrupt_6 th_c_0 ?_
  refine th_iconst (v := 4) C dc_O_interrupt_7 th_c_4 ?_
  refine tq_callSp C (p_O_is l hl I1 t ((0 : Int32)) ((4 : Int32))) ok_O_117 rfl (by decide) dc_O_interrupt_8 rfl (fun x2 p2 => ?_)
  try simp only [th_l_0, th_l_4] at p2
  refine tq_if_ne (tgt := 20) C dc_O_interrupt_11 (by decide) rfl (fun c3 => ?_) (fun c3 => ?_)
  · refine th_aload_n C dc_O_interrupt_20 rfl rfl ?_
    refine th_iload_n C dc_O_interrupt_21 rfl rfl ?_
    refine tq_callVp C (p_O_interrupted l hl I1 t hI1 (by omega)) ok_O_185 cl_20 (show 0 < 1 from by omega) rfl (by decide) dc_O_interrupt_22 rfl (fun x4 p4 => ?_)
    refine tq_if_eq (tgt := 32) C dc_O_interrupt_25 (by decide) rfl (fun c5 => ?_) (fun c5 => ?_)
    · refine th_iconst (v := 0) C dc_O_interrupt_32 th_c_0 ?_
      exact th_iret C hQ dc_O_interrupt_33 (by decide) (by decide) ⟨_, _, rfl, rfl, (by have := th_l_0; first | omega | (dsimp only; omega)), hI1.2⟩
    · refine th_iconst (v := 1) C dc_O_interrupt_28 th_c_1 ?_
      refine th_goto (tgt := 33) C dc_O_interrupt_29 (by decide) ?_
      exact th_iret C hQ dc_O_interrupt_33 (by decide) (by decide) ⟨_, _, rfl, rfl, (by have := th_l_1; first | omega | (dsimp only; omega)), hI1.2⟩
  · refine th_aload_n C dc_O_interrupt_14 rfl rfl ?_
    refine th_iconst (v := 1) C dc_O_interrupt_15 th_c_1 ?_
    refine tq_callVi C (p_O_refuse l hl I1 ((1 : Int32)) hI1) ok_O_124 cl_20 (show 0 < 1 from by omega) rfl (by decide) dc_O_interrupt_16 rfl (fun x6 I6 p6 => ?_)
    obtain ⟨p6, fI6⟩ := p6
    try simp only [th_l_1] at p6
    exact th_iret C hQ dc_O_interrupt_19 (by decide) (by decide) ⟨_, _, rfl, rfl, (by first | omega | (dsimp only; omega)), fI6⟩

set_option maxRecDepth 100000 in
set_option maxHeartbeats 4000000 in
theorem p_O_slice (l : Launch) (hl : l.stackTraces = false) {A : th_I} (I : th_I) (n : Int32) (hI : th_Of A I) : th_F l yn_O_slice cb_O_slice 3 (some .int) { frames := 1, cells := 0, slots := 0, locals := 22 } [.inr (some (20, 0)), .inl n] (th_m I) (th_ri (fun x J => (((1 ≤ n.toInt ∧ n.toInt ≤ 20) ∧ x.toInt = 4 ∧ (J 20 0 34).toInt = 0) ∨ (¬ (1 ≤ n.toInt ∧ n.toInt ≤ 20) ∧ (J 20 0 34).toInt = 1)) ∧ ∀ i k, J 17 i k = A 17 i k)) := by
  refine th_of hl (by decide +kernel) (Nat.le_of_ble_eq_true rfl) (fun z C hQ hN => ?_)
  show th_G l z 3 0 [(0, .inr (some (20, 0))), (1, .inl n)] [] (th_m I) 0 0
  refine th_aload_n C dc_O_slice_0 rfl rfl ?_
  refine th_iconst (v := 0) C dc_O_slice_1 th_c_0 ?_
  refine tq_putI C dc_O_slice_2 cl_20 fd_O_114 rfl (show 0 < 1 from by omega) rfl rfl ?_
  refine th_gen (P := fun J => th_Of A J ∧ J = th_u I 20 0 34 ((0 : Int32))) ⟨th_oput hI (by decide) rfl, rfl⟩ (fun I1 hI1 => ?_)
  obtain ⟨hI1, u1⟩ := hI1
  have e1 : (0 : Int32) = I1 20 0 34 := by rw [u1, th_u_eq]
  have g1 : 0 = (I1 20 0 34).toInt := by rw [← e1]; exact th_l_0.symm
  refine th_iload_n C dc_O_slice_5 rfl rfl ?_
  refine th_iconst (v := 1) C dc_O_slice_6 th_c_1 ?_
  refine th_bipush (v := 20) C dc_O_slice_7 th_b_20 ?_
  refine tq_callSp C (p_O_is l hl I1 n ((1 : Int32)) ((20 : Int32))) ok_O_117 rfl (by decide) dc_O_slice_9 rfl (fun x2 p2 => ?_)
  try simp only [th_l_1, th_l_20] at p2
  refine tq_if_ne (tgt := 21) C dc_O_slice_12 (by decide) rfl (fun c3 => ?_) (fun c3 => ?_)
  · refine th_aload_n C dc_O_slice_21 rfl rfl ?_
    have e4 : (4 : Int32) = I1 20 0 33 := ((hI1.1 20 0 33 (by decide)).trans rfl).symm
    refine tq_getIe C dc_O_slice_22 cl_20 fd_O_110 rfl (show 0 < 1 from by omega) e4 ?_
    refine th_istore_n (lv' := [(0, .inr (some (20, 0))), (1, .inl n), (2, .inl ((4 : Int32)))]) C dc_O_slice_25 rfl (by decide) rfl ?_
    refine th_aload_n C dc_O_slice_26 rfl rfl ?_
    refine th_iload_n C dc_O_slice_27 rfl rfl ?_
    refine tq_putI C dc_O_slice_28 cl_20 fd_O_110 rfl (show 0 < 1 from by omega) rfl rfl ?_
    refine th_gen (P := fun J => (∀ i k, J 17 i k = A 17 i k) ∧ J = th_u I1 20 0 33 n) ⟨fun i k => (th_u_tag (by decide)).trans (hI1.2 i k), rfl⟩ (fun I5 fI5 => ?_)
    obtain ⟨fI5, u5⟩ := fI5
    have e6 : (0 : Int32) = I5 20 0 34 := by rw [u5, th_u_slot (by decide)]; exact e1
    have g6 : 0 = (I5 20 0 34).toInt := by rw [← e6]; exact th_l_0.symm
    have e5 : n = I5 20 0 33 := by rw [u5, th_u_eq]
    have g5 : n.toInt = (I5 20 0 33).toInt := by rw [← e5]
    refine th_iload_n C dc_O_slice_31 rfl rfl ?_
    exact th_iret C hQ dc_O_slice_32 (by decide) (by decide) ⟨_, _, rfl, rfl, (by have := th_l_4; first | omega | (dsimp only; omega)), fI5⟩
  · refine th_aload_n C dc_O_slice_15 rfl rfl ?_
    refine th_iconst (v := 1) C dc_O_slice_16 th_c_1 ?_
    refine tq_callVi C (p_O_refuse l hl I1 ((1 : Int32)) hI1) ok_O_124 cl_20 (show 0 < 1 from by omega) rfl (by decide) dc_O_slice_17 rfl (fun x7 I7 p7 => ?_)
    obtain ⟨p7, fI7⟩ := p7
    try simp only [th_l_1] at p7
    exact th_iret C hQ dc_O_slice_20 (by decide) (by decide) ⟨_, _, rfl, rfl, (by first | omega | (dsimp only; omega)), fI7⟩

set_option maxRecDepth 100000 in
set_option maxHeartbeats 4000000 in
theorem p_O_global (l : Launch) (hl : l.stackTraces = false) {A : th_I} (I : th_I) (s : Int32) (v : Int32) (hI : th_Of A I) : th_F l yn_O_global cb_O_global 4 (some .int) { frames := 1, cells := 0, slots := 0, locals := 22 } [.inr (some (20, 0)), .inl s, .inl v] (th_m I) (th_ri (fun x J => (((0 ≤ s.toInt ∧ s.toInt ≤ 3) ∧ x.toInt = 0 ∧ (J 20 0 34).toInt = 0) ∨ (¬ (0 ≤ s.toInt ∧ s.toInt ≤ 3) ∧ (J 20 0 34).toInt = 1)) ∧ ∀ i k, J 17 i k = A 17 i k)) := by
  refine th_of hl (by decide +kernel) (Nat.le_of_ble_eq_true rfl) (fun z C hQ hN => ?_)
  show th_G l z 4 0 [(0, .inr (some (20, 0))), (1, .inl s), (2, .inl v)] [] (th_m I) 0 0
  refine th_aload_n C dc_O_global_0 rfl rfl ?_
  refine th_iconst (v := 0) C dc_O_global_1 th_c_0 ?_
  refine tq_putI C dc_O_global_2 cl_20 fd_O_114 rfl (show 0 < 1 from by omega) rfl rfl ?_
  refine th_gen (P := fun J => th_Of A J ∧ J = th_u I 20 0 34 ((0 : Int32))) ⟨th_oput hI (by decide) rfl, rfl⟩ (fun I1 hI1 => ?_)
  obtain ⟨hI1, u1⟩ := hI1
  have e1 : (0 : Int32) = I1 20 0 34 := by rw [u1, th_u_eq]
  have g1 : 0 = (I1 20 0 34).toInt := by rw [← e1]; exact th_l_0.symm
  refine th_iload_n C dc_O_global_5 rfl rfl ?_
  refine th_iconst (v := 0) C dc_O_global_6 th_c_0 ?_
  refine th_iconst (v := 3) C dc_O_global_7 th_c_3 ?_
  refine tq_callSp C (p_O_is l hl I1 s ((0 : Int32)) ((3 : Int32))) ok_O_117 rfl (by decide) dc_O_global_8 rfl (fun x2 p2 => ?_)
  try simp only [th_l_0, th_l_3] at p2
  refine tq_if_ne (tgt := 20) C dc_O_global_11 (by decide) rfl (fun c3 => ?_) (fun c3 => ?_)
  · refine th_aload_n C dc_O_global_20 rfl rfl ?_
    refine tq_getR C dc_O_global_21 cl_20 fd_O_22 rfl (show 0 < 1 from by omega) rfl ?_
    refine th_iload_n C dc_O_global_24 rfl rfl ?_
    obtain ⟨n5, m5⟩ := th_nat (a := s.toInt) (by omega)
    have e4 : (0 : Int32) = I1 25 0 n5 := ((hI1.1 25 0 n5 (by decide)).trans rfl).symm
    refine tq_ialdE C dc_O_global_25 rfl (fun _ => rfl) (show 0 < 1 from by omega) rfl m5 (show n5 < 4 from by omega) e4 ?_
    refine th_istore_n (lv' := [(0, .inr (some (20, 0))), (1, .inl s), (2, .inl v), (3, .inl ((0 : Int32)))]) C dc_O_global_26 rfl (by decide) rfl ?_
    refine th_aload_n C dc_O_global_27 rfl rfl ?_
    refine tq_getR C dc_O_global_28 cl_20 fd_O_22 rfl (show 0 < 1 from by omega) rfl ?_
    refine th_iload_n C dc_O_global_31 rfl rfl ?_
    refine th_iload_n C dc_O_global_32 rfl rfl ?_
    refine tq_iastN C dc_O_global_33 rfl (fun _ => rfl) (show 0 < 1 from by omega) rfl m5 (show n5 < 4 from by omega) ?_
    refine th_gen (P := fun J => (∀ i k, J 17 i k = A 17 i k) ∧ J = th_u I1 25 0 n5 v) ⟨fun i k => (th_u_tag (by decide)).trans (hI1.2 i k), rfl⟩ (fun I6 fI6 => ?_)
    obtain ⟨fI6, u6⟩ := fI6
    have e7 : (0 : Int32) = I6 20 0 34 := by rw [u6, th_u_tag (by decide)]; exact e1
    have g7 : 0 = (I6 20 0 34).toInt := by rw [← e7]; exact th_l_0.symm
    have e6 : v = I6 25 0 n5 := by rw [u6, th_u_eq]
    have g6 : v.toInt = (I6 25 0 n5).toInt := by rw [← e6]
    refine th_iload_n C dc_O_global_34 rfl rfl ?_
    exact th_iret C hQ dc_O_global_35 (by decide) (by decide) ⟨_, _, rfl, rfl, (by have := th_l_0; first | omega | (dsimp only; omega)), fI6⟩
  · refine th_aload_n C dc_O_global_14 rfl rfl ?_
    refine th_iconst (v := 1) C dc_O_global_15 th_c_1 ?_
    refine tq_callVi C (p_O_refuse l hl I1 ((1 : Int32)) hI1) ok_O_124 cl_20 (show 0 < 1 from by omega) rfl (by decide) dc_O_global_16 rfl (fun x8 I8 p8 => ?_)
    obtain ⟨p8, fI8⟩ := p8
    try simp only [th_l_1] at p8
    exact th_iret C hQ dc_O_global_19 (by decide) (by decide) ⟨_, _, rfl, rfl, (by first | omega | (dsimp only; omega)), fI8⟩

set_option maxRecDepth 100000 in
set_option maxHeartbeats 4000000 in
theorem p_O_special (l : Launch) (hl : l.stackTraces = false) {A : th_I} (I : th_I) (t : Int32) (s : Int32) (hI : th_Of A I) : th_F l yn_O_special cb_O_special 3 (some .int) { frames := 2, cells := 0, slots := 0, locals := 46 } [.inr (some (20, 0)), .inl t, .inl s] (th_m I) (th_ri (fun x J => (((0 ≤ t.toInt ∧ t.toInt ≤ 4 ∧ 0 ≤ s.toInt ∧ s.toInt ≤ 3) ∧ x.toInt = 0 ∧ (J 20 0 34).toInt = 0) ∨ (¬ (0 ≤ t.toInt ∧ t.toInt ≤ 4 ∧ 0 ≤ s.toInt ∧ s.toInt ≤ 3) ∧ (J 20 0 34).toInt = 1)) ∧ ∀ i k, J 17 i k = A 17 i k)) := by
  refine th_of hl (by decide +kernel) (Nat.le_of_ble_eq_true rfl) (fun z C hQ hN => ?_)
  show th_G l z 3 0 [(0, .inr (some (20, 0))), (1, .inl t), (2, .inl s)] [] (th_m I) 0 0
  refine th_aload_n C dc_O_special_0 rfl rfl ?_
  refine th_iconst (v := 0) C dc_O_special_1 th_c_0 ?_
  refine tq_putI C dc_O_special_2 cl_20 fd_O_114 rfl (show 0 < 1 from by omega) rfl rfl ?_
  refine th_gen (P := fun J => th_Of A J ∧ J = th_u I 20 0 34 ((0 : Int32))) ⟨th_oput hI (by decide) rfl, rfl⟩ (fun I1 hI1 => ?_)
  obtain ⟨hI1, u1⟩ := hI1
  have e1 : (0 : Int32) = I1 20 0 34 := by rw [u1, th_u_eq]
  have g1 : 0 = (I1 20 0 34).toInt := by rw [← e1]; exact th_l_0.symm
  refine th_iload_n C dc_O_special_5 rfl rfl ?_
  refine th_iconst (v := 0) C dc_O_special_6 th_c_0 ?_
  refine th_iconst (v := 4) C dc_O_special_7 th_c_4 ?_
  refine tq_callSp C (p_O_is l hl I1 t ((0 : Int32)) ((4 : Int32))) ok_O_117 rfl (by decide) dc_O_special_8 rfl (fun x2 p2 => ?_)
  try simp only [th_l_0, th_l_4] at p2
  refine tq_if_eq (tgt := 32) C dc_O_special_11 (by decide) rfl (fun c3 => ?_) (fun c3 => ?_)
  · refine th_aload_n C dc_O_special_32 rfl rfl ?_
    refine th_iconst (v := 1) C dc_O_special_33 th_c_1 ?_
    refine tq_callVi C (p_O_refuse l hl I1 ((1 : Int32)) hI1) ok_O_124 cl_20 (show 0 < 1 from by omega) rfl (by decide) dc_O_special_34 rfl (fun x4 I4 p4 => ?_)
    obtain ⟨p4, fI4⟩ := p4
    try simp only [th_l_1] at p4
    exact th_iret C hQ dc_O_special_37 (by decide) (by decide) ⟨_, _, rfl, rfl, (by first | omega | (dsimp only; omega)), fI4⟩
  · refine th_iload_n C dc_O_special_14 rfl rfl ?_
    refine th_iconst (v := 0) C dc_O_special_15 th_c_0 ?_
    refine th_iconst (v := 3) C dc_O_special_16 th_c_3 ?_
    refine tq_callSp C (p_O_is l hl I1 s ((0 : Int32)) ((3 : Int32))) ok_O_117 rfl (by decide) dc_O_special_17 rfl (fun x5 p5 => ?_)
    try simp only [th_l_0, th_l_3] at p5
    refine tq_if_eq (tgt := 32) C dc_O_special_20 (by decide) rfl (fun c6 => ?_) (fun c6 => ?_)
    · refine th_aload_n C dc_O_special_32 rfl rfl ?_
      refine th_iconst (v := 1) C dc_O_special_33 th_c_1 ?_
      refine tq_callVi C (p_O_refuse l hl I1 ((1 : Int32)) hI1) ok_O_124 cl_20 (show 0 < 1 from by omega) rfl (by decide) dc_O_special_34 rfl (fun x7 I7 p7 => ?_)
      obtain ⟨p7, fI7⟩ := p7
      try simp only [th_l_1] at p7
      exact th_iret C hQ dc_O_special_37 (by decide) (by decide) ⟨_, _, rfl, rfl, (by first | omega | (dsimp only; omega)), fI7⟩
    · refine th_aload_n C dc_O_special_23 rfl rfl ?_
      refine th_iload_n C dc_O_special_24 rfl rfl ?_
      refine th_iload_n C dc_O_special_25 rfl rfl ?_
      refine tq_callVp C (p_O_get l hl I1 t s hI1 (by omega) (by omega)) ok_O_136 cl_20 (show 0 < 1 from by omega) rfl (by decide) dc_O_special_26 rfl (fun x8 p8 => ?_)
      refine th_goto (tgt := 37) C dc_O_special_29 (by decide) ?_
      exact th_iret C hQ dc_O_special_37 (by decide) (by decide) ⟨_, _, rfl, rfl, (by first | omega | (dsimp only; omega)), hI1.2⟩

set_option maxRecDepth 100000 in
set_option maxHeartbeats 4000000 in
theorem p_O_look (l : Launch) (hl : l.stackTraces = false) {A : th_I} (I : th_I) (t : Int32) (w : Int32) (hI : th_Of A I) : th_F l yn_O_look cb_O_look 3 (some .int) { frames := 1, cells := 0, slots := 0, locals := 22 } [.inr (some (20, 0)), .inl t, .inl w] (th_m I) (th_ri (fun x J => (((0 ≤ t.toInt ∧ t.toInt ≤ 4 ∧ 0 ≤ w.toInt ∧ w.toInt ≤ 9) ∧ ((w.toInt = 6 ∧ x.toInt = 24) ∨ (w.toInt ≠ 6 ∧ x.toInt = 0)) ∧ (J 20 0 34).toInt = 0) ∨ (¬ (0 ≤ t.toInt ∧ t.toInt ≤ 4 ∧ 0 ≤ w.toInt ∧ w.toInt ≤ 9) ∧ (J 20 0 34).toInt = 1)) ∧ ∀ i k, J 17 i k = A 17 i k)) := by
  refine th_of hl (by decide +kernel) (Nat.le_of_ble_eq_true rfl) (fun z C hQ hN => ?_)
  show th_G l z 3 0 [(0, .inr (some (20, 0))), (1, .inl t), (2, .inl w)] [] (th_m I) 0 0
  refine th_aload_n C dc_O_look_0 rfl rfl ?_
  refine th_iconst (v := 0) C dc_O_look_1 th_c_0 ?_
  refine tq_putI C dc_O_look_2 cl_20 fd_O_114 rfl (show 0 < 1 from by omega) rfl rfl ?_
  refine th_gen (P := fun J => th_Of A J ∧ J = th_u I 20 0 34 ((0 : Int32))) ⟨th_oput hI (by decide) rfl, rfl⟩ (fun I1 hI1 => ?_)
  obtain ⟨hI1, u1⟩ := hI1
  have e1 : (0 : Int32) = I1 20 0 34 := by rw [u1, th_u_eq]
  have g1 : 0 = (I1 20 0 34).toInt := by rw [← e1]; exact th_l_0.symm
  refine th_iload_n C dc_O_look_5 rfl rfl ?_
  refine th_iconst (v := 0) C dc_O_look_6 th_c_0 ?_
  refine th_iconst (v := 4) C dc_O_look_7 th_c_4 ?_
  refine tq_callSp C (p_O_is l hl I1 t ((0 : Int32)) ((4 : Int32))) ok_O_117 rfl (by decide) dc_O_look_8 rfl (fun x2 p2 => ?_)
  try simp only [th_l_0, th_l_4] at p2
  refine tq_if_ne (tgt := 20) C dc_O_look_11 (by decide) rfl (fun c3 => ?_) (fun c3 => ?_)
  · refine th_iload_n C dc_O_look_20 rfl rfl ?_
    have w4 : w.toInt = 0 ∨ w.toInt = 1 ∨ w.toInt = 2 ∨ w.toInt = 3 ∨ w.toInt = 4 ∨ w.toInt = 5 ∨ w.toInt = 6 ∨ w.toInt = 7 ∨ w.toInt = 8 ∨ w.toInt = 9 ∨ (w.toInt < 0 ∨ 9 < w.toInt) := by omega
    rcases w4 with w4 | w4 | w4 | w4 | w4 | w4 | w4 | w4 | w4 | w4 | w4
    · refine th_tableIn (tgt := 76) C dc_O_look_21 (by omega) (by omega) (by rw [w4]; rfl) (by decide) ?_
      refine th_aload_n C dc_O_look_76 rfl rfl ?_
      refine tq_getR C dc_O_look_77 cl_20 fd_O_43 rfl (show 0 < 1 from by omega) rfl ?_
      refine th_iload_n C dc_O_look_80 rfl rfl ?_
      obtain ⟨n6, m6⟩ := th_nat (a := t.toInt) (by omega)
      have e5 : (0 : Int32) = I1 32 0 n6 := ((hI1.1 32 0 n6 (by decide)).trans rfl).symm
      refine tq_ialdE C dc_O_look_81 rfl (fun _ => rfl) (show 0 < 1 from by omega) rfl m6 (show n6 < 5 from by omega) e5 ?_
      exact th_iret C hQ dc_O_look_82 (by decide) (by decide) ⟨_, _, rfl, rfl, (by have := th_l_0; first | omega | (dsimp only; omega)), hI1.2⟩
    · refine th_tableIn (tgt := 83) C dc_O_look_21 (by omega) (by omega) (by rw [w4]; rfl) (by decide) ?_
      refine th_aload_n C dc_O_look_83 rfl rfl ?_
      refine tq_getR C dc_O_look_84 cl_20 fd_O_46 rfl (show 0 < 1 from by omega) rfl ?_
      refine th_iload_n C dc_O_look_87 rfl rfl ?_
      obtain ⟨n8, m8⟩ := th_nat (a := t.toInt) (by omega)
      have e7 : (0 : Int32) = I1 33 0 n8 := ((hI1.1 33 0 n8 (by decide)).trans rfl).symm
      refine tq_ialdE C dc_O_look_88 rfl (fun _ => rfl) (show 0 < 1 from by omega) rfl m8 (show n8 < 5 from by omega) e7 ?_
      exact th_iret C hQ dc_O_look_89 (by decide) (by decide) ⟨_, _, rfl, rfl, (by have := th_l_0; first | omega | (dsimp only; omega)), hI1.2⟩
    · refine th_tableIn (tgt := 90) C dc_O_look_21 (by omega) (by omega) (by rw [w4]; rfl) (by decide) ?_
      refine th_aload_n C dc_O_look_90 rfl rfl ?_
      refine tq_getR C dc_O_look_91 cl_20 fd_O_49 rfl (show 0 < 1 from by omega) rfl ?_
      refine th_iload_n C dc_O_look_94 rfl rfl ?_
      obtain ⟨n10, m10⟩ := th_nat (a := t.toInt) (by omega)
      have e9 : (0 : Int32) = I1 34 0 n10 := ((hI1.1 34 0 n10 (by decide)).trans rfl).symm
      refine tq_ialdE C dc_O_look_95 rfl (fun _ => rfl) (show 0 < 1 from by omega) rfl m10 (show n10 < 5 from by omega) e9 ?_
      exact th_iret C hQ dc_O_look_96 (by decide) (by decide) ⟨_, _, rfl, rfl, (by have := th_l_0; first | omega | (dsimp only; omega)), hI1.2⟩
    · refine th_tableIn (tgt := 97) C dc_O_look_21 (by omega) (by omega) (by rw [w4]; rfl) (by decide) ?_
      refine th_aload_n C dc_O_look_97 rfl rfl ?_
      refine tq_getR C dc_O_look_98 cl_20 fd_O_31 rfl (show 0 < 1 from by omega) rfl ?_
      refine th_iload_n C dc_O_look_101 rfl rfl ?_
      obtain ⟨n12, m12⟩ := th_nat (a := t.toInt) (by omega)
      have e11 : (0 : Int32) = I1 28 0 n12 := ((hI1.1 28 0 n12 (by decide)).trans rfl).symm
      refine tq_ialdE C dc_O_look_102 rfl (fun _ => rfl) (show 0 < 1 from by omega) rfl m12 (show n12 < 5 from by omega) e11 ?_
      exact th_iret C hQ dc_O_look_103 (by decide) (by decide) ⟨_, _, rfl, rfl, (by have := th_l_0; first | omega | (dsimp only; omega)), hI1.2⟩
    · refine th_tableIn (tgt := 104) C dc_O_look_21 (by omega) (by omega) (by rw [w4]; rfl) (by decide) ?_
      refine th_aload_n C dc_O_look_104 rfl rfl ?_
      refine tq_getR C dc_O_look_105 cl_20 fd_O_40 rfl (show 0 < 1 from by omega) rfl ?_
      refine th_iload_n C dc_O_look_108 rfl rfl ?_
      obtain ⟨n14, m14⟩ := th_nat (a := t.toInt) (by omega)
      have e13 : (0 : Int32) = I1 31 0 n14 := ((hI1.1 31 0 n14 (by decide)).trans rfl).symm
      refine tq_ialdE C dc_O_look_109 rfl (fun _ => rfl) (show 0 < 1 from by omega) rfl m14 (show n14 < 5 from by omega) e13 ?_
      exact th_iret C hQ dc_O_look_110 (by decide) (by decide) ⟨_, _, rfl, rfl, (by have := th_l_0; first | omega | (dsimp only; omega)), hI1.2⟩
    · refine th_tableIn (tgt := 111) C dc_O_look_21 (by omega) (by omega) (by rw [w4]; rfl) (by decide) ?_
      refine th_aload_n C dc_O_look_111 rfl rfl ?_
      refine tq_getR C dc_O_look_112 cl_20 fd_O_73 rfl (show 0 < 1 from by omega) rfl ?_
      refine th_iload_n C dc_O_look_115 rfl rfl ?_
      obtain ⟨n16, m16⟩ := th_nat (a := t.toInt) (by omega)
      have e15 : (0 : Int32) = I1 42 0 n16 := ((hI1.1 42 0 n16 (by decide)).trans rfl).symm
      refine tq_zaldE C dc_O_look_116 rfl (fun _ => rfl) (show 0 < 1 from by omega) rfl m16 (show n16 < 5 from by omega) e15 ?_
      refine tq_if_eq (tgt := 124) C dc_O_look_117 (by decide) th_l_0 (fun c17 => ?_) (fun c17 => ?_)
      · refine th_iconst (v := 0) C dc_O_look_124 th_c_0 ?_
        exact th_iret C hQ dc_O_look_125 (by decide) (by decide) ⟨_, _, rfl, rfl, (by have := th_l_0; first | omega | (dsimp only; omega)), hI1.2⟩
      · exact absurd c17 (by decide)
    · refine th_tableIn (tgt := 126) C dc_O_look_21 (by omega) (by omega) (by rw [w4]; rfl) (by decide) ?_
      refine th_aload_n C dc_O_look_126 rfl rfl ?_
      refine tq_getR C dc_O_look_127 cl_20 fd_O_52 rfl (show 0 < 1 from by omega) rfl ?_
      refine th_iload_n C dc_O_look_130 rfl rfl ?_
      obtain ⟨n19, m19⟩ := th_nat (a := t.toInt) (by omega)
      have e18 : (24 : Int32) = I1 35 0 n19 := ((hI1.1 35 0 n19 (by decide)).trans rfl).symm
      refine tq_ialdE C dc_O_look_131 rfl (fun _ => rfl) (show 0 < 1 from by omega) rfl m19 (show n19 < 5 from by omega) e18 ?_
      exact th_iret C hQ dc_O_look_132 (by decide) (by decide) ⟨_, _, rfl, rfl, (by have := th_l_24; first | omega | (dsimp only; omega)), hI1.2⟩
    · refine th_tableIn (tgt := 133) C dc_O_look_21 (by omega) (by omega) (by rw [w4]; rfl) (by decide) ?_
      refine th_aload_n C dc_O_look_133 rfl rfl ?_
      refine tq_getR C dc_O_look_134 cl_20 fd_O_55 rfl (show 0 < 1 from by omega) rfl ?_
      refine th_iload_n C dc_O_look_137 rfl rfl ?_
      obtain ⟨n21, m21⟩ := th_nat (a := t.toInt) (by omega)
      have e20 : (0 : Int32) = I1 36 0 n21 := ((hI1.1 36 0 n21 (by decide)).trans rfl).symm
      refine tq_ialdE C dc_O_look_138 rfl (fun _ => rfl) (show 0 < 1 from by omega) rfl m21 (show n21 < 5 from by omega) e20 ?_
      exact th_iret C hQ dc_O_look_139 (by decide) (by decide) ⟨_, _, rfl, rfl, (by have := th_l_0; first | omega | (dsimp only; omega)), hI1.2⟩
    · refine th_tableIn (tgt := 140) C dc_O_look_21 (by omega) (by omega) (by rw [w4]; rfl) (by decide) ?_
      refine th_aload_n C dc_O_look_140 rfl rfl ?_
      refine tq_getR C dc_O_look_141 cl_20 fd_O_58 rfl (show 0 < 1 from by omega) rfl ?_
      refine th_iload_n C dc_O_look_144 rfl rfl ?_
      obtain ⟨n23, m23⟩ := th_nat (a := t.toInt) (by omega)
      have e22 : (0 : Int32) = I1 37 0 n23 := ((hI1.1 37 0 n23 (by decide)).trans rfl).symm
      refine tq_ialdE C dc_O_look_145 rfl (fun _ => rfl) (show 0 < 1 from by omega) rfl m23 (show n23 < 5 from by omega) e22 ?_
      exact th_iret C hQ dc_O_look_146 (by decide) (by decide) ⟨_, _, rfl, rfl, (by have := th_l_0; first | omega | (dsimp only; omega)), hI1.2⟩
    · refine th_tableIn (tgt := 147) C dc_O_look_21 (by omega) (by omega) (by rw [w4]; rfl) (by decide) ?_
      refine th_aload_n C dc_O_look_147 rfl rfl ?_
      refine tq_getR C dc_O_look_148 cl_20 fd_O_101 rfl (show 0 < 1 from by omega) rfl ?_
      refine th_iload_n C dc_O_look_151 rfl rfl ?_
      obtain ⟨n25, m25⟩ := th_nat (a := t.toInt) (by omega)
      have e24 : (0 : Int32) = I1 51 0 n25 := ((hI1.1 51 0 n25 (by decide)).trans rfl).symm
      refine tq_ialdE C dc_O_look_152 rfl (fun _ => rfl) (show 0 < 1 from by omega) rfl m25 (show n25 < 5 from by omega) e24 ?_
      exact th_iret C hQ dc_O_look_153 (by decide) (by decide) ⟨_, _, rfl, rfl, (by have := th_l_0; first | omega | (dsimp only; omega)), hI1.2⟩
    · refine th_tableOut (tgt := 154) C dc_O_look_21 w4 (by decide) ?_
      refine th_aload_n C dc_O_look_154 rfl rfl ?_
      refine th_iconst (v := 1) C dc_O_look_155 th_c_1 ?_
      refine tq_callVi C (p_O_refuse l hl I1 ((1 : Int32)) hI1) ok_O_124 cl_20 (show 0 < 1 from by omega) rfl (by decide) dc_O_look_156 rfl (fun x26 I26 p26 => ?_)
      obtain ⟨p26, fI26⟩ := p26
      try simp only [th_l_1] at p26
      exact th_iret C hQ dc_O_look_159 (by decide) (by decide) ⟨_, _, rfl, rfl, (by first | omega | (dsimp only; omega)), fI26⟩
  · refine th_aload_n C dc_O_look_14 rfl rfl ?_
    refine th_iconst (v := 1) C dc_O_look_15 th_c_1 ?_
    refine tq_callVi C (p_O_refuse l hl I1 ((1 : Int32)) hI1) ok_O_124 cl_20 (show 0 < 1 from by omega) rfl (by decide) dc_O_look_16 rfl (fun x27 I27 p27 => ?_)
    obtain ⟨p27, fI27⟩ := p27
    try simp only [th_l_1] at p27
    exact th_iret C hQ dc_O_look_19 (by decide) (by decide) ⟨_, _, rfl, rfl, (by first | omega | (dsimp only; omega)), fI27⟩

set_option maxRecDepth 100000 in
set_option maxHeartbeats 4000000 in
theorem p_O_lock (l : Launch) (hl : l.stackTraces = false) {A : th_I} (I : th_I) (m : Int32) (w : Int32) (hI : th_Of A I) : th_F l yn_O_lock cb_O_lock 3 (some .int) { frames := 1, cells := 0, slots := 0, locals := 22 } [.inr (some (20, 0)), .inl m, .inl w] (th_m I) (th_ri (fun x J => (((0 ≤ m.toInt ∧ m.toInt ≤ 2 ∧ 0 ≤ w.toInt ∧ w.toInt ≤ 3) ∧ ((w.toInt = 0 ∧ x.toInt = -1) ∨ (w.toInt ≠ 0 ∧ x.toInt = 0)) ∧ (J 20 0 34).toInt = 0) ∨ (¬ (0 ≤ m.toInt ∧ m.toInt ≤ 2 ∧ 0 ≤ w.toInt ∧ w.toInt ≤ 3) ∧ (J 20 0 34).toInt = 1)) ∧ ∀ i k, J 17 i k = A 17 i k)) := by
  refine th_of hl (by decide +kernel) (Nat.le_of_ble_eq_true rfl) (fun z C hQ hN => ?_)
  show th_G l z 3 0 [(0, .inr (some (20, 0))), (1, .inl m), (2, .inl w)] [] (th_m I) 0 0
  refine th_aload_n C dc_O_lock_0 rfl rfl ?_
  refine th_iconst (v := 0) C dc_O_lock_1 th_c_0 ?_
  refine tq_putI C dc_O_lock_2 cl_20 fd_O_114 rfl (show 0 < 1 from by omega) rfl rfl ?_
  refine th_gen (P := fun J => th_Of A J ∧ J = th_u I 20 0 34 ((0 : Int32))) ⟨th_oput hI (by decide) rfl, rfl⟩ (fun I1 hI1 => ?_)
  obtain ⟨hI1, u1⟩ := hI1
  have e1 : (0 : Int32) = I1 20 0 34 := by rw [u1, th_u_eq]
  have g1 : 0 = (I1 20 0 34).toInt := by rw [← e1]; exact th_l_0.symm
  refine th_iload_n C dc_O_lock_5 rfl rfl ?_
  refine th_iconst (v := 0) C dc_O_lock_6 th_c_0 ?_
  refine th_iconst (v := 2) C dc_O_lock_7 th_c_2 ?_
  refine tq_callSp C (p_O_is l hl I1 m ((0 : Int32)) ((2 : Int32))) ok_O_117 rfl (by decide) dc_O_lock_8 rfl (fun x2 p2 => ?_)
  try simp only [th_l_0, th_l_2] at p2
  refine tq_if_eq (tgt := 23) C dc_O_lock_11 (by decide) rfl (fun c3 => ?_) (fun c3 => ?_)
  · refine th_aload_n C dc_O_lock_23 rfl rfl ?_
    refine th_iconst (v := 1) C dc_O_lock_24 th_c_1 ?_
    refine tq_callVi C (p_O_refuse l hl I1 ((1 : Int32)) hI1) ok_O_124 cl_20 (show 0 < 1 from by omega) rfl (by decide) dc_O_lock_25 rfl (fun x4 I4 p4 => ?_)
    obtain ⟨p4, fI4⟩ := p4
    try simp only [th_l_1] at p4
    exact th_iret C hQ dc_O_lock_28 (by decide) (by decide) ⟨_, _, rfl, rfl, (by first | omega | (dsimp only; omega)), fI4⟩
  · refine th_iload_n C dc_O_lock_14 rfl rfl ?_
    refine th_iconst (v := 0) C dc_O_lock_15 th_c_0 ?_
    refine th_iconst (v := 3) C dc_O_lock_16 th_c_3 ?_
    refine tq_callSp C (p_O_is l hl I1 w ((0 : Int32)) ((3 : Int32))) ok_O_117 rfl (by decide) dc_O_lock_17 rfl (fun x5 p5 => ?_)
    try simp only [th_l_0, th_l_3] at p5
    refine tq_if_ne (tgt := 29) C dc_O_lock_20 (by decide) rfl (fun c6 => ?_) (fun c6 => ?_)
    · refine th_iload_n C dc_O_lock_29 rfl rfl ?_
      refine tq_if_ne (tgt := 42) C dc_O_lock_30 (by decide) rfl (fun c7 => ?_) (fun c7 => ?_)
      · refine th_iload_n C dc_O_lock_42 rfl rfl ?_
        refine th_iconst (v := 1) C dc_O_lock_43 th_c_1 ?_
        refine tq_icmp_ne (tgt := 56) C dc_O_lock_44 (by decide) rfl th_l_1 (fun c8 => ?_) (fun c8 => ?_)
        · refine th_iload_n C dc_O_lock_56 rfl rfl ?_
          refine th_iconst (v := 2) C dc_O_lock_57 th_c_2 ?_
          refine tq_icmp_ne (tgt := 70) C dc_O_lock_58 (by decide) rfl th_l_2 (fun c9 => ?_) (fun c9 => ?_)
          · refine th_aload_n C dc_O_lock_70 rfl rfl ?_
            refine tq_getR C dc_O_lock_71 cl_20 fd_O_95 rfl (show 0 < 1 from by omega) rfl ?_
            refine th_iload_n C dc_O_lock_74 rfl rfl ?_
            obtain ⟨n11, m11⟩ := th_nat (a := m.toInt) (by omega)
            have e10 : (0 : Int32) = I1 49 0 n11 := ((hI1.1 49 0 n11 (by decide)).trans rfl).symm
            refine tq_ialdE C dc_O_lock_75 rfl (fun _ => rfl) (show 0 < 1 from by omega) rfl m11 (show n11 < 3 from by omega) e10 ?_
            exact th_iret C hQ dc_O_lock_76 (by decide) (by decide) ⟨_, _, rfl, rfl, (by have := th_l_0; first | omega | (dsimp only; omega)), hI1.2⟩
          · refine th_aload_n C dc_O_lock_61 rfl rfl ?_
            refine tq_getR C dc_O_lock_62 cl_20 fd_O_89 rfl (show 0 < 1 from by omega) rfl ?_
            refine th_iload_n C dc_O_lock_65 rfl rfl ?_
            obtain ⟨n13, m13⟩ := th_nat (a := m.toInt) (by omega)
            have e12 : (0 : Int32) = I1 47 0 n13 := ((hI1.1 47 0 n13 (by decide)).trans rfl).symm
            refine tq_ialdE C dc_O_lock_66 rfl (fun _ => rfl) (show 0 < 1 from by omega) rfl m13 (show n13 < 3 from by omega) e12 ?_
            refine th_goto (tgt := 76) C dc_O_lock_67 (by decide) ?_
            exact th_iret C hQ dc_O_lock_76 (by decide) (by decide) ⟨_, _, rfl, rfl, (by have := th_l_0; first | omega | (dsimp only; omega)), hI1.2⟩
        · refine th_aload_n C dc_O_lock_47 rfl rfl ?_
          refine tq_getR C dc_O_lock_48 cl_20 fd_O_83 rfl (show 0 < 1 from by omega) rfl ?_
          refine th_iload_n C dc_O_lock_51 rfl rfl ?_
          obtain ⟨n15, m15⟩ := th_nat (a := m.toInt) (by omega)
          have e14 : (0 : Int32) = I1 45 0 n15 := ((hI1.1 45 0 n15 (by decide)).trans rfl).symm
          refine tq_ialdE C dc_O_lock_52 rfl (fun _ => rfl) (show 0 < 1 from by omega) rfl m15 (show n15 < 3 from by omega) e14 ?_
          refine th_goto (tgt := 76) C dc_O_lock_53 (by decide) ?_
          exact th_iret C hQ dc_O_lock_76 (by decide) (by decide) ⟨_, _, rfl, rfl, (by have := th_l_0; first | omega | (dsimp only; omega)), hI1.2⟩
      · refine th_aload_n C dc_O_lock_33 rfl rfl ?_
        refine tq_getR C dc_O_lock_34 cl_20 fd_O_80 rfl (show 0 < 1 from by omega) rfl ?_
        refine th_iload_n C dc_O_lock_37 rfl rfl ?_
        obtain ⟨n17, m17⟩ := th_nat (a := m.toInt) (by omega)
        have e16 : (-1 : Int32) = I1 44 0 n17 := ((hI1.1 44 0 n17 (by decide)).trans rfl).symm
        refine tq_ialdE C dc_O_lock_38 rfl (fun _ => rfl) (show 0 < 1 from by omega) rfl m17 (show n17 < 3 from by omega) e16 ?_
        refine th_goto (tgt := 76) C dc_O_lock_39 (by decide) ?_
        exact th_iret C hQ dc_O_lock_76 (by decide) (by decide) ⟨_, _, rfl, rfl, (by have := th_l_m1; first | omega | (dsimp only; omega)), hI1.2⟩
    · refine th_aload_n C dc_O_lock_23 rfl rfl ?_
      refine th_iconst (v := 1) C dc_O_lock_24 th_c_1 ?_
      refine tq_callVi C (p_O_refuse l hl I1 ((1 : Int32)) hI1) ok_O_124 cl_20 (show 0 < 1 from by omega) rfl (by decide) dc_O_lock_25 rfl (fun x18 I18 p18 => ?_)
      obtain ⟨p18, fI18⟩ := p18
      try simp only [th_l_1] at p18
      exact th_iret C hQ dc_O_lock_28 (by decide) (by decide) ⟨_, _, rfl, rfl, (by first | omega | (dsimp only; omega)), fI18⟩

set_option maxRecDepth 100000 in
set_option maxHeartbeats 4000000 in
theorem p_O_said (l : Launch) (hl : l.stackTraces = false) {A : th_I} (I : th_I) (k : Int32) (hI : th_Of A I) : th_F l yn_O_said cb_O_said 2 (some .int) { frames := 1, cells := 0, slots := 0, locals := 22 } [.inr (some (20, 0)), .inl k] (th_m I) (th_ri (fun x J => (((False) ∧ True ∧ (J 20 0 34).toInt = 0) ∨ (¬ (False) ∧ (J 20 0 34).toInt = 1)) ∧ ∀ i k, J 17 i k = A 17 i k)) := by
  refine th_of hl (by decide +kernel) (Nat.le_of_ble_eq_true rfl) (fun z C hQ hN => ?_)
  show th_G l z 2 0 [(0, .inr (some (20, 0))), (1, .inl k)] [] (th_m I) 0 0
  refine th_aload_n C dc_O_said_0 rfl rfl ?_
  refine th_iconst (v := 0) C dc_O_said_1 th_c_0 ?_
  refine tq_putI C dc_O_said_2 cl_20 fd_O_114 rfl (show 0 < 1 from by omega) rfl rfl ?_
  refine th_gen (P := fun J => th_Of A J ∧ J = th_u I 20 0 34 ((0 : Int32))) ⟨th_oput hI (by decide) rfl, rfl⟩ (fun I1 hI1 => ?_)
  obtain ⟨hI1, u1⟩ := hI1
  have e1 : (0 : Int32) = I1 20 0 34 := by rw [u1, th_u_eq]
  have g1 : 0 = (I1 20 0 34).toInt := by rw [← e1]; exact th_l_0.symm
  refine th_iload_n C dc_O_said_5 rfl rfl ?_
  refine th_iconst (v := 0) C dc_O_said_6 th_c_0 ?_
  refine th_bipush (v := 39) C dc_O_said_7 th_b_39 ?_
  refine tq_callSp C (p_O_is l hl I1 k ((0 : Int32)) ((39 : Int32))) ok_O_117 rfl (by decide) dc_O_said_9 rfl (fun x2 p2 => ?_)
  try simp only [th_l_0, th_l_39] at p2
  refine tq_if_eq (tgt := 34) C dc_O_said_12 (by decide) rfl (fun c3 => ?_) (fun c3 => ?_)
  · refine th_aload_n C dc_O_said_34 rfl rfl ?_
    refine th_iconst (v := 1) C dc_O_said_35 th_c_1 ?_
    refine tq_callVi C (p_O_refuse l hl I1 ((1 : Int32)) hI1) ok_O_124 cl_20 (show 0 < 1 from by omega) rfl (by decide) dc_O_said_36 rfl (fun x4 I4 p4 => ?_)
    obtain ⟨p4, fI4⟩ := p4
    try simp only [th_l_1] at p4
    exact th_iret C hQ dc_O_said_39 (by decide) (by decide) ⟨_, _, rfl, rfl, Or.inr ⟨fun q => q, by omega⟩, fI4⟩
  · refine th_iload_n C dc_O_said_15 rfl rfl ?_
    refine th_aload_n C dc_O_said_16 rfl rfl ?_
    refine tq_getR C dc_O_said_17 cl_20 fd_O_107 rfl (show 0 < 1 from by omega) rfl ?_
    refine th_iconst (v := 0) C dc_O_said_20 th_c_0 ?_
    have e5 : (0 : Int32) = I1 53 0 0 := ((hI1.1 53 0 0 (by decide)).trans rfl).symm
    refine tq_ialdE C dc_O_said_21 rfl (fun _ => rfl) (show 0 < 1 from by omega) th_l_0 (by decide) (show 0 < 8 from by omega) e5 ?_
    refine tq_icmp_ge (tgt := 34) C dc_O_said_22 (by decide) rfl th_l_0 (fun c6 => ?_) (fun c6 => ?_)
    · refine th_aload_n C dc_O_said_34 rfl rfl ?_
      refine th_iconst (v := 1) C dc_O_said_35 th_c_1 ?_
      refine tq_callVi C (p_O_refuse l hl I1 ((1 : Int32)) hI1) ok_O_124 cl_20 (show 0 < 1 from by omega) rfl (by decide) dc_O_said_36 rfl (fun x7 I7 p7 => ?_)
      obtain ⟨p7, fI7⟩ := p7
      try simp only [th_l_1] at p7
      exact th_iret C hQ dc_O_said_39 (by decide) (by decide) ⟨_, _, rfl, rfl, Or.inr ⟨fun q => q, by omega⟩, fI7⟩
    · exact absurd c6 (by omega)

set_option maxRecDepth 100000 in
set_option maxHeartbeats 4000000 in
theorem p_O_count (l : Launch) (hl : l.stackTraces = false) {A : th_I} (I : th_I) (w : Int32) (hI : th_Of A I) : th_F l yn_O_count cb_O_count 4 (some .int) { frames := 1, cells := 0, slots := 0, locals := 22 } [.inr (some (20, 0)), .inl w] (th_m I) (th_ri (fun x J => (((0 ≤ w.toInt ∧ w.toInt ≤ 7) ∧ ((w.toInt = 6 ∧ x.toInt = -1) ∨ (w.toInt ≠ 6 ∧ x.toInt = 0)) ∧ (J 20 0 34).toInt = 0) ∨ (¬ (0 ≤ w.toInt ∧ w.toInt ≤ 7) ∧ (J 20 0 34).toInt = 1)) ∧ ∀ i k, J 17 i k = A 17 i k)) := by
  refine th_of hl (by decide +kernel) (Nat.le_of_ble_eq_true rfl) (fun z C hQ hN => ?_)
  show th_G l z 4 0 [(0, .inr (some (20, 0))), (1, .inl w)] [] (th_m I) 0 0
  refine th_aload_n C dc_O_count_0 rfl rfl ?_
  refine th_iconst (v := 0) C dc_O_count_1 th_c_0 ?_
  refine tq_putI C dc_O_count_2 cl_20 fd_O_114 rfl (show 0 < 1 from by omega) rfl rfl ?_
  refine th_gen (P := fun J => th_Of A J ∧ J = th_u I 20 0 34 ((0 : Int32))) ⟨th_oput hI (by decide) rfl, rfl⟩ (fun I1 hI1 => ?_)
  obtain ⟨hI1, u1⟩ := hI1
  have e1 : (0 : Int32) = I1 20 0 34 := by rw [u1, th_u_eq]
  have g1 : 0 = (I1 20 0 34).toInt := by rw [← e1]; exact th_l_0.symm
  refine th_iload_n C dc_O_count_5 rfl rfl ?_
  refine th_iconst (v := 0) C dc_O_count_6 th_c_0 ?_
  refine th_bipush (v := 7) C dc_O_count_7 th_b_7 ?_
  refine tq_callSp C (p_O_is l hl I1 w ((0 : Int32)) ((7 : Int32))) ok_O_117 rfl (by decide) dc_O_count_9 rfl (fun x2 p2 => ?_)
  try simp only [th_l_0, th_l_7] at p2
  refine tq_if_ne (tgt := 21) C dc_O_count_12 (by decide) rfl (fun c3 => ?_) (fun c3 => ?_)
  · refine th_iload_n C dc_O_count_21 rfl rfl ?_
    refine th_iconst (v := 3) C dc_O_count_22 th_c_3 ?_
    refine tq_icmp_eq (tgt := 38) C dc_O_count_23 (by decide) rfl th_l_3 (fun c4 => ?_) (fun c4 => ?_)
    · refine th_iconst (v := 0) C dc_O_count_38 th_c_0 ?_
      refine th_istore_n (lv' := [(0, .inr (some (20, 0))), (1, .inl w), (2, .inl ((0 : Int32)))]) C dc_O_count_39 rfl (by decide) rfl ?_
      refine th_iconst (v := 0) C dc_O_count_40 th_c_0 ?_
      refine th_istore_n (lv' := [(0, .inr (some (20, 0))), (1, .inl w), (2, .inl ((0 : Int32))), (3, .inl ((0 : Int32)))]) C dc_O_count_41 rfl (by decide) rfl ?_
      have L42 : ∀ (N : Nat) (k : Int32), (0 ≤ k.toInt ∧ k.toInt ≤ 5) → (5 - k.toInt).toNat < N → th_G l z 4 42 [(0, .inr (some (20, 0))), (1, .inl w), (2, .inl ((0 : Int32))), (3, .inl k)] [] (th_m I1) 0 0 := by
        intro N
        induction N with
        | zero => intro k h1 hm; exact absurd hm (Nat.not_lt_zero _)
        | succ N ih =>
          intro k h1 hm
          refine th_iload_n C dc_O_count_42 rfl rfl ?_
          refine th_iconst (v := 5) C dc_O_count_43 th_c_5 ?_
          refine tq_icmp_ge (tgt := 82) C dc_O_count_44 (by decide) rfl th_l_5 (fun c6 => ?_) (fun c6 => ?_)
          · refine th_iload_n C dc_O_count_82 rfl rfl ?_
            exact th_iret C hQ dc_O_count_83 (by decide) (by decide) ⟨_, _, rfl, rfl, (by have := th_l_0; first | omega | (dsimp only; omega)), hI1.2⟩
          · refine th_iload_n C dc_O_count_47 rfl rfl ?_
            refine th_iconst (v := 3) C dc_O_count_48 th_c_3 ?_
            refine tq_icmp_ne (tgt := 63) C dc_O_count_49 (by decide) rfl th_l_3 (fun c7 => ?_) (fun c7 => ?_)
            · refine th_aload_n C dc_O_count_63 rfl rfl ?_
              refine tq_getR C dc_O_count_64 cl_20 fd_O_43 rfl (show 0 < 1 from by omega) rfl ?_
              refine th_iload_n C dc_O_count_67 rfl rfl ?_
              obtain ⟨n9, m9⟩ := th_nat (a := k.toInt) (by omega)
              have e8 : (0 : Int32) = I1 32 0 n9 := ((hI1.1 32 0 n9 (by decide)).trans rfl).symm
              refine tq_ialdE C dc_O_count_68 rfl (fun _ => rfl) (show 0 < 1 from by omega) rfl m9 (show n9 < 5 from by omega) e8 ?_
              refine th_iconst (v := 1) C dc_O_count_69 th_c_1 ?_
              refine tq_icmp_ne (tgt := 76) C dc_O_count_70 (by decide) th_l_0 th_l_1 (fun c10 => ?_) (fun c10 => ?_)
              · refine tq_iinc (lv' := fun rr => [(0, .inr (some (20, 0))), (1, .inl w), (2, .inl ((0 : Int32))), (3, .inl rr)]) C dc_O_count_76 rfl (by decide) th_c_1 rfl th_l_1 (fun rr => rfl) (fun x11 e11 a11 => ?_)
                refine th_goto (tgt := 42) C dc_O_count_79 (by decide) ?_
                exact ih x11 (by omega) (by omega)
              · exact absurd c10 (by decide)
            · refine th_aload_n C dc_O_count_52 rfl rfl ?_
              refine th_iload_n C dc_O_count_53 rfl rfl ?_
              refine tq_callVp C (p_O_alive l hl I1 k hI1 (by omega)) ok_O_128 cl_20 (show 0 < 1 from by omega) rfl (by decide) dc_O_count_54 rfl (fun x12 p12 => ?_)
              refine tq_if_eq (tgt := 76) C dc_O_count_57 (by decide) rfl (fun c13 => ?_) (fun c13 => ?_)
              · refine tq_iinc (lv' := fun rr => [(0, .inr (some (20, 0))), (1, .inl w), (2, .inl ((0 : Int32))), (3, .inl rr)]) C dc_O_count_76 rfl (by decide) th_c_1 rfl th_l_1 (fun rr => rfl) (fun x14 e14 a14 => ?_)
                refine th_goto (tgt := 42) C dc_O_count_79 (by decide) ?_
                exact ih x14 (by omega) (by omega)
              · exact absurd c13 (by omega)
      exact L42 _ ((0 : Int32)) (by have := th_l_0; omega) (Nat.lt_succ_self _)
    · refine th_iload_n C dc_O_count_26 rfl rfl ?_
      refine th_iconst (v := 4) C dc_O_count_27 th_c_4 ?_
      refine tq_icmp_eq (tgt := 38) C dc_O_count_28 (by decide) rfl th_l_4 (fun c15 => ?_) (fun c15 => ?_)
      · refine th_iconst (v := 0) C dc_O_count_38 th_c_0 ?_
        refine th_istore_n (lv' := [(0, .inr (some (20, 0))), (1, .inl w), (2, .inl ((0 : Int32)))]) C dc_O_count_39 rfl (by decide) rfl ?_
        refine th_iconst (v := 0) C dc_O_count_40 th_c_0 ?_
        refine th_istore_n (lv' := [(0, .inr (some (20, 0))), (1, .inl w), (2, .inl ((0 : Int32))), (3, .inl ((0 : Int32)))]) C dc_O_count_41 rfl (by decide) rfl ?_
        have L42 : ∀ (N : Nat) (k : Int32), (0 ≤ k.toInt ∧ k.toInt ≤ 5) → (5 - k.toInt).toNat < N → th_G l z 4 42 [(0, .inr (some (20, 0))), (1, .inl w), (2, .inl ((0 : Int32))), (3, .inl k)] [] (th_m I1) 0 0 := by
          intro N
          induction N with
          | zero => intro k h1 hm; exact absurd hm (Nat.not_lt_zero _)
          | succ N ih =>
            intro k h1 hm
            refine th_iload_n C dc_O_count_42 rfl rfl ?_
            refine th_iconst (v := 5) C dc_O_count_43 th_c_5 ?_
            refine tq_icmp_ge (tgt := 82) C dc_O_count_44 (by decide) rfl th_l_5 (fun c17 => ?_) (fun c17 => ?_)
            · refine th_iload_n C dc_O_count_82 rfl rfl ?_
              exact th_iret C hQ dc_O_count_83 (by decide) (by decide) ⟨_, _, rfl, rfl, (by have := th_l_0; first | omega | (dsimp only; omega)), hI1.2⟩
            · refine th_iload_n C dc_O_count_47 rfl rfl ?_
              refine th_iconst (v := 3) C dc_O_count_48 th_c_3 ?_
              refine tq_icmp_ne (tgt := 63) C dc_O_count_49 (by decide) rfl th_l_3 (fun c18 => ?_) (fun c18 => ?_)
              · refine th_aload_n C dc_O_count_63 rfl rfl ?_
                refine tq_getR C dc_O_count_64 cl_20 fd_O_43 rfl (show 0 < 1 from by omega) rfl ?_
                refine th_iload_n C dc_O_count_67 rfl rfl ?_
                obtain ⟨n20, m20⟩ := th_nat (a := k.toInt) (by omega)
                have e19 : (0 : Int32) = I1 32 0 n20 := ((hI1.1 32 0 n20 (by decide)).trans rfl).symm
                refine tq_ialdE C dc_O_count_68 rfl (fun _ => rfl) (show 0 < 1 from by omega) rfl m20 (show n20 < 5 from by omega) e19 ?_
                refine th_iconst (v := 1) C dc_O_count_69 th_c_1 ?_
                refine tq_icmp_ne (tgt := 76) C dc_O_count_70 (by decide) th_l_0 th_l_1 (fun c21 => ?_) (fun c21 => ?_)
                · refine tq_iinc (lv' := fun rr => [(0, .inr (some (20, 0))), (1, .inl w), (2, .inl ((0 : Int32))), (3, .inl rr)]) C dc_O_count_76 rfl (by decide) th_c_1 rfl th_l_1 (fun rr => rfl) (fun x22 e22 a22 => ?_)
                  refine th_goto (tgt := 42) C dc_O_count_79 (by decide) ?_
                  exact ih x22 (by omega) (by omega)
                · exact absurd c21 (by decide)
              · refine th_aload_n C dc_O_count_52 rfl rfl ?_
                refine th_iload_n C dc_O_count_53 rfl rfl ?_
                refine tq_callVp C (p_O_alive l hl I1 k hI1 (by omega)) ok_O_128 cl_20 (show 0 < 1 from by omega) rfl (by decide) dc_O_count_54 rfl (fun x23 p23 => ?_)
                refine tq_if_eq (tgt := 76) C dc_O_count_57 (by decide) rfl (fun c24 => ?_) (fun c24 => ?_)
                · refine tq_iinc (lv' := fun rr => [(0, .inr (some (20, 0))), (1, .inl w), (2, .inl ((0 : Int32))), (3, .inl rr)]) C dc_O_count_76 rfl (by decide) th_c_1 rfl th_l_1 (fun rr => rfl) (fun x25 e25 a25 => ?_)
                  refine th_goto (tgt := 42) C dc_O_count_79 (by decide) ?_
                  exact ih x25 (by omega) (by omega)
                · exact absurd c24 (by omega)
        exact L42 _ ((0 : Int32)) (by have := th_l_0; omega) (Nat.lt_succ_self _)
      · refine th_aload_n C dc_O_count_31 rfl rfl ?_
        refine tq_getR C dc_O_count_32 cl_20 fd_O_107 rfl (show 0 < 1 from by omega) rfl ?_
        refine th_iload_n C dc_O_count_35 rfl rfl ?_
        obtain ⟨n27, m27⟩ := th_nat (a := w.toInt) (by omega)
        refine tq_ialdN C dc_O_count_36 rfl (fun _ => rfl) (show 0 < 1 from by omega) rfl m27 (show n27 < 8 from by omega) (fun x26 e26 => ?_)
        have g26 : x26.toInt = (I1 53 0 n27).toInt := by rw [e26]
        have y53 := th_c53 (e26.trans (hI1.1 53 0 n27 (by decide)))
        exact th_iret C hQ dc_O_count_37 (by decide) (by decide) ⟨_, _, rfl, rfl, (by first | omega | (dsimp only; omega)), hI1.2⟩
  · refine th_aload_n C dc_O_count_15 rfl rfl ?_
    refine th_iconst (v := 1) C dc_O_count_16 th_c_1 ?_
    refine tq_callVi C (p_O_refuse l hl I1 ((1 : Int32)) hI1) ok_O_124 cl_20 (show 0 < 1 from by omega) rfl (by decide) dc_O_count_17 rfl (fun x28 I28 p28 => ?_)
    obtain ⟨p28, fI28⟩ := p28
    try simp only [th_l_1] at p28
    exact th_iret C hQ dc_O_count_20 (by decide) (by decide) ⟨_, _, rfl, rfl, (by first | omega | (dsimp only; omega)), fI28⟩

