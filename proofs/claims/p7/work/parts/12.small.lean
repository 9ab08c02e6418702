set_option maxRecDepth 100000 in
set_option maxHeartbeats 4000000 in
theorem c_S_isAlive (l : Launch) (hl : l.stackTraces = false) (I : th_I) (i : Nat) (hi : i < 5) : th_F l yn_S_isAlive cb_S_isAlive 1 (some .boolean) { frames := 0, cells := 0, slots := 0, locals := 0 } [.inr (some (6, i))] (th_m I) (th_rp I (fun x => x.toInt = 1 ∧ (I 6 i 5).toInt ≠ 0 ∧ (I 6 i 5).toInt ≠ 5 ∨ x.toInt = 0 ∧ ((I 6 i 5).toInt = 0 ∨ (I 6 i 5).toInt = 5))) := by
  refine th_of hl (by decide +kernel) (Nat.le_of_ble_eq_true rfl) (fun z C hQ hN => ?_)
  show th_G l z 1 0 [(0, .inr (some (6, i)))] [] (th_m I) 0 0
  refine th_aload_n C dc_S_isAlive_0 rfl rfl ?_
  refine tq_getI C dc_S_isAlive_1 cl_6 fd_S_37 rfl (show i < 5 from by omega) (fun x1 e1 => ?_)
  have g1 : x1.toInt = (I 6 i 5).toInt := by rw [e1]
  refine tq_if_eq (tgt := 19) C dc_S_isAlive_4 (by decide) rfl (fun c2 => ?_) (fun c2 => ?_)
  · refine th_iconst (v := 0) C dc_S_isAlive_19 th_c_0 ?_
    exact th_zret C hQ dc_S_isAlive_20 (rfl) (by decide) (by decide) ⟨_, rfl, rfl, (by have := th_l_0; first | omega | (dsimp only; omega))⟩
  · refine th_aload_n C dc_S_isAlive_7 rfl rfl ?_
    refine tq_getIe C dc_S_isAlive_8 cl_6 fd_S_37 rfl (show i < 5 from by omega) e1 ?_
    refine th_iconst (v := 5) C dc_S_isAlive_11 th_c_5 ?_
    refine tq_icmp_eq (tgt := 19) C dc_S_isAlive_12 (by decide) rfl th_l_5 (fun c3 => ?_) (fun c3 => ?_)
    · refine th_iconst (v := 0) C dc_S_isAlive_19 th_c_0 ?_
      exact th_zret C hQ dc_S_isAlive_20 (rfl) (by decide) (by decide) ⟨_, rfl, rfl, (by have := th_l_0; first | omega | (dsimp only; omega))⟩
    · refine th_iconst (v := 1) C dc_S_isAlive_15 th_c_1 ?_
      refine th_goto (tgt := 20) C dc_S_isAlive_16 (by decide) ?_
      exact th_zret C hQ dc_S_isAlive_20 (rfl) (by decide) (by decide) ⟨_, rfl, rfl, (by have := th_l_1; first | omega | (dsimp only; omega))⟩

set_option maxRecDepth 100000 in
set_option maxHeartbeats 4000000 in
theorem c_S_forgetInterrupt (l : Launch) (hl : l.stackTraces = false) {K sl : Int} {Z : th_I} (I : th_I) (i : Nat) (hI : th_Inv K sl Z I) (hi : i < 5) : th_F l yn_S_forgetInterrupt cb_S_forgetInterrupt 1 none { frames := 0, cells := 0, slots := 0, locals := 0 } [.inr (some (6, i))] (th_m I) (th_rv (fun J => th_Inv K sl Z J ∧ (True))) := by
  refine th_of hl (by decide +kernel) (Nat.le_of_ble_eq_true rfl) (fun z C hQ hN => ?_)
  show th_G l z 1 0 [(0, .inr (some (6, i)))] [] (th_m I) 0 0
  have hb := hI.2.2.1
  refine th_aload_n C dc_S_forgetInterrupt_0 rfl rfl ?_
  refine th_iconst (v := 0) C dc_S_forgetInterrupt_1 th_c_0 ?_
  refine tq_putZ C dc_S_forgetInterrupt_2 cl_6 fd_S_65 rfl (show i < 5 from by omega) rfl rfl rfl rfl ?_
  refine th_gen (P := fun J => th_Inv K sl Z J ∧ J = th_u I 6 i 11 ((0 : Int32))) ⟨th_put hI (by decide) trivial, rfl⟩ (fun I1 hI1 => ?_)
  obtain ⟨hI1, u1⟩ := hI1
  have e1 : (0 : Int32) = I1 6 i 11 := by rw [u1, th_u_eq]
  have g1 : 0 = (I1 6 i 11).toInt := by rw [← e1]; exact th_l_0.symm
  refine th_aload_n C dc_S_forgetInterrupt_5 rfl rfl ?_
  refine th_iconst (v := 0) C dc_S_forgetInterrupt_6 th_c_0 ?_
  refine tq_putZ C dc_S_forgetInterrupt_7 cl_6 fd_S_69 rfl (show i < 5 from by omega) rfl rfl rfl rfl ?_
  refine th_gen (P := fun J => th_Inv K sl Z J ∧ J = th_u I1 6 i 12 ((0 : Int32))) ⟨th_put hI1 (by decide) trivial, rfl⟩ (fun I2 hI2 => ?_)
  obtain ⟨hI2, u2⟩ := hI2
  have e3 : (0 : Int32) = I2 6 i 11 := by rw [u2, th_u_slot (by decide)]; exact e1
  have g3 : (0 : Int32).toInt = (I2 6 i 11).toInt := by rw [← e3]
  have e2 : (0 : Int32) = I2 6 i 12 := by rw [u2, th_u_eq]
  have g2 : 0 = (I2 6 i 12).toInt := by rw [← e2]; exact th_l_0.symm
  exact th_vret C hQ dc_S_forgetInterrupt_10 (by decide) (by decide) ⟨_, rfl, rfl, hI2, trivial⟩

set_option maxRecDepth 100000 in
set_option maxHeartbeats 4000000 in
theorem c_S_forgetAll (l : Launch) (hl : l.stackTraces = false) {K sl : Int} {Z : th_I} (I : th_I) (i : Nat) (hI : th_Inv K sl Z I) (hi : i < 5) : th_F l yn_S_forgetAll cb_S_forgetAll 1 none { frames := 1, cells := 0, slots := 0, locals := 20 } [.inr (some (6, i))] (th_m I) (th_rv (fun J => th_Inv K sl Z J ∧ (True))) := by
  refine th_of hl (by decide +kernel) (Nat.le_of_ble_eq_true rfl) (fun z C hQ hN => ?_)
  show th_G l z 1 0 [(0, .inr (some (6, i)))] [] (th_m I) 0 0
  have hb := hI.2.2.1
  refine th_aload_n C dc_S_forgetAll_0 rfl rfl ?_
  refine tq_getR C dc_S_forgetAll_1 cl_6 fd_S_23 rfl (show i < 5 from by omega) rfl ?_
  refine th_iconst (v := 0) C dc_S_forgetAll_4 th_c_0 ?_
  refine tq_putI C dc_S_forgetAll_5 cl_11 fd_S_59 rfl (show 2 * i < 10 from by omega) rfl rfl ?_
  refine th_gen (P := fun J => th_Inv K sl Z J ∧ J = th_u I 11 (2 * i) 2 ((0 : Int32))) ⟨th_put hI (by decide) (show 0 ≤ (0 : Int32).toInt ∧ (0 : Int32).toInt ≤ (th_lp (2 * i) : Int) from by rw [th_l_0]; omega), rfl⟩ (fun I1 hI1 => ?_)
  obtain ⟨hI1, u1⟩ := hI1
  have e1 : (0 : Int32) = I1 11 (2 * i) 2 := by rw [u1, th_u_eq]
  have g1 : 0 = (I1 11 (2 * i) 2).toInt := by rw [← e1]; exact th_l_0.symm
  refine th_aload_n C dc_S_forgetAll_8 rfl rfl ?_
  refine tq_getR C dc_S_forgetAll_9 cl_6 fd_S_27 rfl (show i < 5 from by omega) rfl ?_
  refine th_iconst (v := 0) C dc_S_forgetAll_12 th_c_0 ?_
  refine tq_putI C dc_S_forgetAll_13 cl_11 fd_S_59 rfl (show 2 * i + 1 < 10 from by omega) rfl rfl ?_
  refine th_gen (P := fun J => th_Inv K sl Z J ∧ J = th_u I1 11 (2 * i + 1) 2 ((0 : Int32))) ⟨th_put hI1 (by decide) (show 0 ≤ (0 : Int32).toInt ∧ (0 : Int32).toInt ≤ (th_lp (2 * i + 1) : Int) from by rw [th_l_0]; omega), rfl⟩ (fun I2 hI2 => ?_)
  obtain ⟨hI2, u2⟩ := hI2
  have e2 : (0 : Int32) = I2 11 (2 * i + 1) 2 := by rw [u2, th_u_eq]
  have g2 : 0 = (I2 11 (2 * i + 1) 2).toInt := by rw [← e2]; exact th_l_0.symm
  refine th_aload_n C dc_S_forgetAll_16 rfl rfl ?_
  refine th_bipush (v := 24) C dc_S_forgetAll_17 th_b_24 ?_
  refine tq_putI C dc_S_forgetAll_19 cl_6 fd_S_41 rfl (show i < 5 from by omega) rfl rfl ?_
  refine th_gen (P := fun J => th_Inv K sl Z J ∧ J = th_u I2 6 i 8 ((24 : Int32))) ⟨th_put hI2 (by decide) (show 0 ≤ (24 : Int32).toInt ∧ (24 : Int32).toInt ≤ 24 from by rw [th_l_24]; omega), rfl⟩ (fun I3 hI3 => ?_)
  obtain ⟨hI3, u3⟩ := hI3
  have e4 : (0 : Int32) = I3 11 (2 * i + 1) 2 := by rw [u3, th_u_tag (by decide)]; exact e2
  have g4 : (0 : Int32).toInt = (I3 11 (2 * i + 1) 2).toInt := by rw [← e4]
  have e3 : (24 : Int32) = I3 6 i 8 := by rw [u3, th_u_eq]
  have g3 : 24 = (I3 6 i 8).toInt := by rw [← e3]; exact th_l_24.symm
  refine th_aload_n C dc_S_forgetAll_22 rfl rfl ?_
  refine tq_callVv C (c_S_forgetInterrupt l hl I3 i hI3 (by omega)) ok_S_62 cl_6 (show i < 5 from by omega) rfl (Nat.le_of_ble_eq_true rfl) dc_S_forgetAll_23 rfl (fun I5 p5 => ?_)
  obtain ⟨hI5, p5⟩ := p5
  exact th_vret C hQ dc_S_forgetAll_26 (by decide) (by decide) ⟨_, rfl, rfl, hI5, trivial⟩

set_option maxRecDepth 100000 in
set_option maxHeartbeats 4000000 in
theorem c_S_beginAnew (l : Launch) (hl : l.stackTraces = false) {K sl : Int} {Z : th_I} (I : th_I) (i : Nat) (hI : th_Inv K sl Z I) (hi : i < 5) : th_F l yn_S_beginAnew cb_S_beginAnew 1 none { frames := 2, cells := 0, slots := 0, locals := 40 } [.inr (some (6, i))] (th_m I) (th_rv (fun J => th_Inv K sl Z J ∧ (True))) := by
  refine th_of hl (by decide +kernel) (Nat.le_of_ble_eq_true rfl) (fun z C hQ hN => ?_)
  show th_G l z 1 0 [(0, .inr (some (6, i)))] [] (th_m I) 0 0
  have hb := hI.2.2.1
  refine th_aload_n C dc_S_beginAnew_0 rfl rfl ?_
  refine tq_callVv C (c_S_forgetAll l hl I i hI (by omega)) ok_S_47 cl_6 (show i < 5 from by omega) rfl (Nat.le_of_ble_eq_true rfl) dc_S_beginAnew_1 rfl (fun I1 p1 => ?_)
  obtain ⟨hI1, p1⟩ := p1
  refine th_aload_n C dc_S_beginAnew_4 rfl rfl ?_
  refine th_iconst (v := 1) C dc_S_beginAnew_5 th_c_1 ?_
  refine tq_putI C dc_S_beginAnew_6 cl_6 fd_S_37 rfl (show i < 5 from by omega) rfl rfl ?_
  refine th_gen (P := fun J => th_Inv K sl Z J ∧ J = th_u I1 6 i 5 ((1 : Int32))) ⟨th_put hI1 (by decide) trivial, rfl⟩ (fun I2 hI2 => ?_)
  obtain ⟨hI2, u2⟩ := hI2
  have e2 : (1 : Int32) = I2 6 i 5 := by rw [u2, th_u_eq]
  have g2 : 1 = (I2 6 i 5).toInt := by rw [← e2]; exact th_l_1.symm
  refine th_aload_n C dc_S_beginAnew_9 rfl rfl ?_
  refine th_iconst (v := 0) C dc_S_beginAnew_10 th_c_0 ?_
  refine tq_putI C dc_S_beginAnew_11 cl_6 fd_S_50 rfl (show i < 5 from by omega) rfl rfl ?_
  refine th_gen (P := fun J => th_Inv K sl Z J ∧ J = th_u I2 6 i 6 ((0 : Int32))) ⟨th_put hI2 (by decide) (show 0 ≤ (0 : Int32).toInt ∧ (0 : Int32).toInt ≤ 24 from by rw [th_l_0]; omega), rfl⟩ (fun I3 hI3 => ?_)
  obtain ⟨hI3, u3⟩ := hI3
  have e4 : (1 : Int32) = I3 6 i 5 := by rw [u3, th_u_slot (by decide)]; exact e2
  have g4 : (1 : Int32).toInt = (I3 6 i 5).toInt := by rw [← e4]
  have e3 : (0 : Int32) = I3 6 i 6 := by rw [u3, th_u_eq]
  have g3 : 0 = (I3 6 i 6).toInt := by rw [← e3]; exact th_l_0.symm
  refine th_aload_n C dc_S_beginAnew_14 rfl rfl ?_
  refine th_iconst (v := 0) C dc_S_beginAnew_15 th_c_0 ?_
  refine tq_putI C dc_S_beginAnew_16 cl_6 fd_S_53 rfl (show i < 5 from by omega) rfl rfl ?_
  refine th_gen (P := fun J => th_Inv K sl Z J ∧ J = th_u I3 6 i 9 ((0 : Int32))) ⟨th_put hI3 (by decide) trivial, rfl⟩ (fun I5 hI5 => ?_)
  obtain ⟨hI5, u5⟩ := hI5
  have e6 : (1 : Int32) = I5 6 i 5 := by rw [u5, th_u_slot (by decide)]; exact e4
  have g6 : (1 : Int32).toInt = (I5 6 i 5).toInt := by rw [← e6]
  have e7 : (0 : Int32) = I5 6 i 6 := by rw [u5, th_u_slot (by decide)]; exact e3
  have g7 : (0 : Int32).toInt = (I5 6 i 6).toInt := by rw [← e7]
  have e5 : (0 : Int32) = I5 6 i 9 := by rw [u5, th_u_eq]
  have g5 : 0 = (I5 6 i 9).toInt := by rw [← e5]; exact th_l_0.symm
  refine th_aload_n C dc_S_beginAnew_19 rfl rfl ?_
  refine th_dup C dc_S_beginAnew_20 ?_
  refine tq_getI C dc_S_beginAnew_21 cl_6 fd_S_56 rfl (show i < 5 from by omega) (fun x8 e8 => ?_)
  have g8 : x8.toInt = (I5 6 i 10).toInt := by rw [e8]
  refine th_iconst (v := 1) C dc_S_beginAnew_24 th_c_1 ?_
  refine tq_iadd C dc_S_beginAnew_25 rfl th_l_1 (fun x9 e9 a9 => ?_)
  refine tq_putI C dc_S_beginAnew_26 cl_6 fd_S_56 rfl (show i < 5 from by omega) rfl rfl ?_
  refine th_gen (P := fun J => th_Inv K sl Z J ∧ J = th_u I5 6 i 10 x9) ⟨th_put hI5 (by decide) trivial, rfl⟩ (fun I10 hI10 => ?_)
  obtain ⟨hI10, u10⟩ := hI10
  have e11 : (1 : Int32) = I10 6 i 5 := by rw [u10, th_u_slot (by decide)]; exact e6
  have g11 : (1 : Int32).toInt = (I10 6 i 5).toInt := by rw [← e11]
  have e12 : (0 : Int32) = I10 6 i 6 := by rw [u10, th_u_slot (by decide)]; exact e7
  have g12 : (0 : Int32).toInt = (I10 6 i 6).toInt := by rw [← e12]
  have e13 : (0 : Int32) = I10 6 i 9 := by rw [u10, th_u_slot (by decide)]; exact e5
  have g13 : (0 : Int32).toInt = (I10 6 i 9).toInt := by rw [← e13]
  have e10 : x9 = I10 6 i 10 := by rw [u10, th_u_eq]
  have g10 : x9.toInt = (I10 6 i 10).toInt := by rw [← e10]
  exact th_vret C hQ dc_S_beginAnew_29 (by decide) (by decide) ⟨_, rfl, rfl, hI10, trivial⟩

set_option maxRecDepth 100000 in
set_option maxHeartbeats 4000000 in
theorem c_P_append (l : Launch) (hl : l.stackTraces = false) {K sl : Int} {Z : th_I} (I : th_I) (i : Nat) (a : Int32) (b : Int32) (c : Int32) (hI : th_Inv K sl Z I) (hi : i < 5) (hv : th_valid a.toInt b.toInt c.toInt) : th_F l yn_P_append cb_P_append 4 none { frames := 0, cells := 0, slots := 0, locals := 0 } [.inr (some (7, i)), .inl a, .inl b, .inl c] (th_m I) (th_rv (fun J => th_Inv K sl Z J ∧ ((I 7 i 3).toInt < 24 → (J 7 i 3).toInt = (I 7 i 3).toInt + 1))) := by
  refine th_of hl (by decide +kernel) (Nat.le_of_ble_eq_true rfl) (fun z C hQ hN => ?_)
  show th_G l z 4 0 [(0, .inr (some (7, i))), (1, .inl a), (2, .inl b), (3, .inl c)] [] (th_m I) 0 0
  have hb := hI.2.2.1
  refine th_aload_n C dc_P_append_0 rfl rfl ?_
  refine tq_getI C dc_P_append_1 cl_7 fd_P_21 rfl (show i < 5 from by omega) (fun x1 e1 => ?_)
  have g1 : x1.toInt = (I 7 i 3).toInt := by rw [e1]
  have r1 : 0 ≤ x1.toInt ∧ x1.toInt ≤ 24 := by rw [e1]; exact hI.1 7 i 3
  refine th_bipush (v := 24) C dc_P_append_4 th_b_24 ?_
  refine tq_icmp_ge (tgt := 49) C dc_P_append_6 (by decide) rfl th_l_24 (fun c2 => ?_) (fun c2 => ?_)
  · exact th_vret C hQ dc_P_append_49 (by decide) (by decide) ⟨_, rfl, rfl, hI, fun q => absurd q (by omega)⟩
  · refine th_aload_n C dc_P_append_9 rfl rfl ?_
    refine tq_getR C dc_P_append_10 cl_7 fd_P_9 rfl (show i < 5 from by omega) rfl ?_
    refine th_aload_n C dc_P_append_13 rfl rfl ?_
    refine tq_getIe C dc_P_append_14 cl_7 fd_P_21 rfl (show i < 5 from by omega) e1 ?_
    refine th_iload_n C dc_P_append_17 rfl rfl ?_
    obtain ⟨n3, m3⟩ := th_nat (a := x1.toInt) (by omega)
    refine tq_iastN C dc_P_append_18 rfl (fun _ => rfl) (show i < 5 from by omega) rfl m3 (show n3 < 24 from by omega) ?_
    refine th_gen (P := fun J => J = th_u I 8 i n3 a) rfl (fun I4 u4 => ?_)
    have e5 : x1 = I4 7 i 3 := by rw [u4, th_u_tag (by decide)]; exact e1
    have g5 : x1.toInt = (I4 7 i 3).toInt := by rw [← e5]
    have e4 : a = I4 8 i n3 := by rw [u4, th_u_eq]
    have g4 : a.toInt = (I4 8 i n3).toInt := by rw [← e4]
    refine th_aload_n C dc_P_append_19 rfl rfl ?_
    refine tq_getR C dc_P_append_20 cl_7 fd_P_15 rfl (show i < 5 from by omega) rfl ?_
    refine th_aload_n C dc_P_append_23 rfl rfl ?_
    refine tq_getIe C dc_P_append_24 cl_7 fd_P_21 rfl (show i < 5 from by omega) e5 ?_
    refine th_iload_n C dc_P_append_27 rfl rfl ?_
    refine tq_iastN C dc_P_append_28 rfl (fun _ => rfl) (show i < 5 from by omega) rfl m3 (show n3 < 24 from by omega) ?_
    refine th_gen (P := fun J => J = th_u I4 9 i n3 b) rfl (fun I6 u6 => ?_)
    have e7 : x1 = I6 7 i 3 := by rw [u6, th_u_tag (by decide)]; exact e5
    have g7 : x1.toInt = (I6 7 i 3).toInt := by rw [← e7]
    have e8 : a = I6 8 i n3 := by rw [u6, th_u_tag (by decide)]; exact e4
    have g8 : a.toInt = (I6 8 i n3).toInt := by rw [← e8]
    have e6 : b = I6 9 i n3 := by rw [u6, th_u_eq]
    have g6 : b.toInt = (I6 9 i n3).toInt := by rw [← e6]
    refine th_aload_n C dc_P_append_29 rfl rfl ?_
    refine tq_getR C dc_P_append_30 cl_7 fd_P_18 rfl (show i < 5 from by omega) rfl ?_
    refine th_aload_n C dc_P_append_33 rfl rfl ?_
    refine tq_getIe C dc_P_append_34 cl_7 fd_P_21 rfl (show i < 5 from by omega) e7 ?_
    refine th_iload_n C dc_P_append_37 rfl rfl ?_
    refine tq_iastN C dc_P_append_38 rfl (fun _ => rfl) (show i < 5 from by omega) rfl m3 (show n3 < 24 from by omega) ?_
    refine th_gen (P := fun J => J = th_u I6 10 i n3 c) rfl (fun I9 u9 => ?_)
    have e10 : x1 = I9 7 i 3 := by rw [u9, th_u_tag (by decide)]; exact e7
    have g10 : x1.toInt = (I9 7 i 3).toInt := by rw [← e10]
    have e11 : a = I9 8 i n3 := by rw [u9, th_u_tag (by decide)]; exact e8
    have g11 : a.toInt = (I9 8 i n3).toInt := by rw [← e11]
    have e12 : b = I9 9 i n3 := by rw [u9, th_u_tag (by decide)]; exact e6
    have g12 : b.toInt = (I9 9 i n3).toInt := by rw [← e12]
    have e9 : c = I9 10 i n3 := by rw [u9, th_u_eq]
    have g9 : c.toInt = (I9 10 i n3).toInt := by rw [← e9]
    refine th_aload_n C dc_P_append_39 rfl rfl ?_
    refine th_dup C dc_P_append_40 ?_
    refine tq_getIe C dc_P_append_41 cl_7 fd_P_21 rfl (show i < 5 from by omega) e10 ?_
    refine th_iconst (v := 1) C dc_P_append_44 th_c_1 ?_
    refine tq_iadd C dc_P_append_45 rfl th_l_1 (fun x13 e13 a13 => ?_)
    refine tq_putI C dc_P_append_46 cl_7 fd_P_21 rfl (show i < 5 from by omega) rfl rfl ?_
    refine th_gen (P := fun J => J = th_u I9 7 i 3 x13) rfl (fun I14 u14 => ?_)
    have e15 : a = I14 8 i n3 := by rw [u14, th_u_tag (by decide)]; exact e11
    have g15 : a.toInt = (I14 8 i n3).toInt := by rw [← e15]
    have e16 : b = I14 9 i n3 := by rw [u14, th_u_tag (by decide)]; exact e12
    have g16 : b.toInt = (I14 9 i n3).toInt := by rw [← e16]
    have e17 : c = I14 10 i n3 := by rw [u14, th_u_tag (by decide)]; exact e9
    have g17 : c.toInt = (I14 10 i n3).toInt := by rw [← e17]
    have e14 : x13 = I14 7 i 3 := by rw [u14, th_u_eq]
    have g14 : x13.toInt = (I14 7 i 3).toInt := by rw [← e14]
    exact th_vret C hQ dc_P_append_49 (by decide) (by decide) ⟨_, rfl, rfl, (by rw [u14, u9, u6, u4]; exact th_app hI rfl rfl hv (by omega)), fun _ => (by omega)⟩

set_option maxRecDepth 100000 in
set_option maxHeartbeats 4000000 in
theorem c_Q_isFull (l : Launch) (hl : l.stackTraces = false) {K sl : Int} {Z : th_I} (I : th_I) (j : Nat) (hI : th_Inv K sl Z I) (hj : j < 10) : th_F l yn_Q_isFull cb_Q_isFull 1 (some .boolean) { frames := 0, cells := 0, slots := 0, locals := 0 } [.inr (some (11, j))] (th_m I) (th_rp I (fun x => x.toInt = 1 ∧ (th_lp j : Int) ≤ (I 11 j 2).toInt ∨ x.toInt = 0 ∧ (I 11 j 2).toInt < (th_lp j : Int))) := by
  refine th_of hl (by decide +kernel) (Nat.le_of_ble_eq_true rfl) (fun z C hQ hN => ?_)
  show th_G l z 1 0 [(0, .inr (some (11, j)))] [] (th_m I) 0 0
  have hb := hI.2.2.1
  have hlp := th_lp_le j
  refine th_aload_n C dc_Q_isFull_0 rfl rfl ?_
  refine tq_getI C dc_Q_isFull_1 cl_11 fd_Q_18 rfl (show j < 10 from by omega) (fun x1 e1 => ?_)
  have g1 : x1.toInt = (I 11 j 2).toInt := by rw [e1]
  have r1 : 0 ≤ x1.toInt ∧ x1.toInt ≤ (th_lp j : Int) := by rw [e1]; exact hI.1 11 j 2
  refine th_aload_n C dc_Q_isFull_4 rfl rfl ?_
  refine tq_getR C dc_Q_isFull_5 cl_11 fd_Q_9 rfl (show j < 10 from by omega) rfl ?_
  obtain ⟨x2, e2⟩ : ∃ r : Int32, nI (th_lp j) = r := ⟨_, rfl⟩
  have a2 := th_nI_12 e2
  refine tq_alen (v := x2) C dc_Q_isFull_8 rfl (fun _ => rfl) (show j < 10 from by omega) e2 ?_
  refine tq_icmp_lt (tgt := 16) C dc_Q_isFull_9 (by decide) rfl rfl (fun c3 => ?_) (fun c3 => ?_)
  · refine th_iconst (v := 0) C dc_Q_isFull_16 th_c_0 ?_
    exact th_zret C hQ dc_Q_isFull_17 (rfl) (by decide) (by decide) ⟨_, rfl, rfl, (by have := th_l_0; first | omega | (dsimp only; omega))⟩
  · refine th_iconst (v := 1) C dc_Q_isFull_12 th_c_1 ?_
    refine th_goto (tgt := 17) C dc_Q_isFull_13 (by decide) ?_
    exact th_zret C hQ dc_Q_isFull_17 (rfl) (by decide) (by decide) ⟨_, rfl, rfl, (by have := th_l_1; first | omega | (dsimp only; omega))⟩

set_option maxRecDepth 100000 in
set_option maxHeartbeats 4000000 in
theorem c_Q_latest (l : Launch) (hl : l.stackTraces = false) {K sl : Int} {Z : th_I} (I : th_I) (j : Nat) (s : Int32) (hI : th_Inv K sl Z I) (hj : j < 10) : th_F l yn_Q_latest cb_Q_latest 3 (some .int) { frames := 0, cells := 0, slots := 0, locals := 0 } [.inr (some (11, j)), .inl s] (th_m I) (th_rp I (fun x => -1 ≤ x.toInt ∧ x.toInt < (I 11 j 2).toInt ∧ x.toInt < (th_lp j : Int) ∨ x.toInt = -1)) := by
  refine th_of hl (by decide +kernel) (Nat.le_of_ble_eq_true rfl) (fun z C hQ hN => ?_)
  show th_G l z 3 0 [(0, .inr (some (11, j))), (1, .inl s)] [] (th_m I) 0 0
  have hb := hI.2.2.1
  have hlp := th_lp_le j
  refine th_aload_n C dc_Q_latest_0 rfl rfl ?_
  refine tq_getI C dc_Q_latest_1 cl_11 fd_Q_18 rfl (show j < 10 from by omega) (fun x1 e1 => ?_)
  have g1 : x1.toInt = (I 11 j 2).toInt := by rw [e1]
  have r1 : 0 ≤ x1.toInt ∧ x1.toInt ≤ (th_lp j : Int) := by rw [e1]; exact hI.1 11 j 2
  refine th_iconst (v := 1) C dc_Q_latest_4 th_c_1 ?_
  refine tq_isub C dc_Q_latest_5 rfl th_l_1 (fun x2 e2 a2 => ?_)
  refine th_istore_n (lv' := [(0, .inr (some (11, j))), (1, .inl s), (2, .inl x2)]) C dc_Q_latest_6 rfl (by decide) rfl ?_
  have L7 : ∀ (N : Nat) (k : Int32), (-1 ≤ k.toInt ∧ k.toInt < (I 11 j 2).toInt) → (k.toInt + 1).toNat < N → th_G l z 3 7 [(0, .inr (some (11, j))), (1, .inl s), (2, .inl k)] [] (th_m I) 0 0 := by
    intro N
    induction N with
    | zero => intro k h1 hm; exact absurd hm (Nat.not_lt_zero _)
    | succ N ih =>
      intro k h1 hm
      refine th_iload_n C dc_Q_latest_7 rfl rfl ?_
      refine tq_if_lt (tgt := 29) C dc_Q_latest_8 (by decide) rfl (fun c4 => ?_) (fun c4 => ?_)
      · refine th_iconst (v := -1) C dc_Q_latest_29 th_c_m1 ?_
        exact th_iret C hQ dc_Q_latest_30 (by decide) (by decide) ⟨_, rfl, rfl, (by have := th_l_m1; first | omega | (dsimp only; omega))⟩
      · refine th_aload_n C dc_Q_latest_11 rfl rfl ?_
        refine tq_getR C dc_Q_latest_12 cl_11 fd_Q_9 rfl (show j < 10 from by omega) rfl ?_
        refine th_iload_n C dc_Q_latest_15 rfl rfl ?_
        obtain ⟨n6, m6⟩ := th_nat (a := k.toInt) (by omega)
        refine tq_ialdN C dc_Q_latest_16 rfl (fun _ => rfl) (show j < 10 from by omega) rfl m6 (show n6 < th_lp j from by omega) (fun x5 e5 => ?_)
        have g5 : x5.toInt = (I 12 j n6).toInt := by rw [e5]
        have r5 : 0 ≤ x5.toInt ∧ x5.toInt ≤ 3 := by rw [e5]; exact hI.1 12 j n6
        refine th_iload_n C dc_Q_latest_17 rfl rfl ?_
        refine tq_icmp_ne (tgt := 23) C dc_Q_latest_18 (by decide) rfl rfl (fun c7 => ?_) (fun c7 => ?_)
        · refine tq_iinc (lv' := fun rr => [(0, .inr (some (11, j))), (1, .inl s), (2, .inl rr)]) C dc_Q_latest_23 rfl (by decide) th_c_m1 rfl th_l_m1 (fun rr => rfl) (fun x8 e8 a8 => ?_)
          refine th_goto (tgt := 7) C dc_Q_latest_26 (by decide) ?_
          exact ih x8 (by omega) (by omega)
        · refine th_iload_n C dc_Q_latest_21 rfl rfl ?_
          exact th_iret C hQ dc_Q_latest_22 (by decide) (by decide) ⟨_, rfl, rfl, (by first | omega | (dsimp only; omega))⟩
  exact L7 _ x2 (by omega) (Nat.lt_succ_self _)

set_option maxRecDepth 100000 in
set_option maxHeartbeats 4000000 in
theorem c_Q_append (l : Launch) (hl : l.stackTraces = false) {K sl : Int} {Z : th_I} (I : th_I) (j : Nat) (s : Int32) (v : Int32) (hI : th_Inv K sl Z I) (hj : j < 10) (hs : 0 ≤ s.toInt ∧ s.toInt ≤ 3) : th_F l yn_Q_append cb_Q_append 3 none { frames := 1, cells := 0, slots := 0, locals := 20 } [.inr (some (11, j)), .inl s, .inl v] (th_m I) (th_rv (fun J => th_Inv K sl Z J ∧ (True))) := by
  refine th_of hl (by decide +kernel) (Nat.le_of_ble_eq_true rfl) (fun z C hQ hN => ?_)
  show th_G l z 3 0 [(0, .inr (some (11, j))), (1, .inl s), (2, .inl v)] [] (th_m I) 0 0
  have hb := hI.2.2.1
  have hlp := th_lp_le j
  refine th_aload_n C dc_Q_append_0 rfl rfl ?_
  refine tq_callVp C (c_Q_isFull l hl I j hI (by omega)) ok_Q_22 cl_11 (show j < 10 from by omega) rfl (Nat.le_of_ble_eq_true rfl) dc_Q_append_1 rfl (fun x1 p1 => ?_)
  refine tq_if_ne (tgt := 37) C dc_Q_append_4 (by decide) rfl (fun c2 => ?_) (fun c2 => ?_)
  · exact th_vret C hQ dc_Q_append_37 (by decide) (by decide) ⟨_, rfl, rfl, hI, trivial⟩
  · refine th_aload_n C dc_Q_append_7 rfl rfl ?_
    refine tq_getR C dc_Q_append_8 cl_11 fd_Q_9 rfl (show j < 10 from by omega) rfl ?_
    refine th_aload_n C dc_Q_append_11 rfl rfl ?_
    refine tq_getI C dc_Q_append_12 cl_11 fd_Q_18 rfl (show j < 10 from by omega) (fun x3 e3 => ?_)
    have g3 : x3.toInt = (I 11 j 2).toInt := by rw [e3]
    have r3 : 0 ≤ x3.toInt ∧ x3.toInt ≤ (th_lp j : Int) := by rw [e3]; exact hI.1 11 j 2
    refine th_iload_n C dc_Q_append_15 rfl rfl ?_
    obtain ⟨n4, m4⟩ := th_nat (a := x3.toInt) (by omega)
    refine tq_iastN C dc_Q_append_16 rfl (fun _ => rfl) (show j < 10 from by omega) rfl m4 (show n4 < th_lp j from by omega) ?_
    refine th_gen (P := fun J => th_Inv K sl Z J ∧ J = th_u I 12 j n4 s) ⟨th_put hI (by decide) (show 0 ≤ s.toInt ∧ s.toInt ≤ 3 from by omega), rfl⟩ (fun I5 hI5 => ?_)
    obtain ⟨hI5, u5⟩ := hI5
    have e6 : x3 = I5 11 j 2 := by rw [u5, th_u_tag (by decide)]; exact e3
    have g6 : x3.toInt = (I5 11 j 2).toInt := by rw [← e6]
    have e5 : s = I5 12 j n4 := by rw [u5, th_u_eq]
    have g5 : s.toInt = (I5 12 j n4).toInt := by rw [← e5]
    refine th_aload_n C dc_Q_append_17 rfl rfl ?_
    refine tq_getR C dc_Q_append_18 cl_11 fd_Q_15 rfl (show j < 10 from by omega) rfl ?_
    refine th_aload_n C dc_Q_append_21 rfl rfl ?_
    refine tq_getIe C dc_Q_append_22 cl_11 fd_Q_18 rfl (show j < 10 from by omega) e6 ?_
    refine th_iload_n C dc_Q_append_25 rfl rfl ?_
    refine tq_iastN C dc_Q_append_26 rfl (fun _ => rfl) (show j < 10 from by omega) rfl m4 (show n4 < th_lp j from by omega) ?_
    refine th_gen (P := fun J => th_Inv K sl Z J ∧ J = th_u I5 13 j n4 v) ⟨th_put hI5 (by decide) trivial, rfl⟩ (fun I7 hI7 => ?_)
    obtain ⟨hI7, u7⟩ := hI7
    have e8 : x3 = I7 11 j 2 := by rw [u7, th_u_tag (by decide)]; exact e6
    have g8 : x3.toInt = (I7 11 j 2).toInt := by rw [← e8]
    have e9 : s = I7 12 j n4 := by rw [u7, th_u_tag (by decide)]; exact e5
    have g9 : s.toInt = (I7 12 j n4).toInt := by rw [← e9]
    have e7 : v = I7 13 j n4 := by rw [u7, th_u_eq]
    have g7 : v.toInt = (I7 13 j n4).toInt := by rw [← e7]
    refine th_aload_n C dc_Q_append_27 rfl rfl ?_
    refine th_dup C dc_Q_append_28 ?_
    refine tq_getIe C dc_Q_append_29 cl_11 fd_Q_18 rfl (show j < 10 from by omega) e8 ?_
    refine th_iconst (v := 1) C dc_Q_append_32 th_c_1 ?_
    refine tq_iadd C dc_Q_append_33 rfl th_l_1 (fun x10 e10 a10 => ?_)
    refine tq_putI C dc_Q_append_34 cl_11 fd_Q_18 rfl (show j < 10 from by omega) rfl rfl ?_
    refine th_gen (P := fun J => th_Inv K sl Z J ∧ J = th_u I7 11 j 2 x10) ⟨th_put hI7 (by decide) (show 0 ≤ x10.toInt ∧ x10.toInt ≤ (th_lp j : Int) from by omega), rfl⟩ (fun I11 hI11 => ?_)
    obtain ⟨hI11, u11⟩ := hI11
    have e12 : s = I11 12 j n4 := by rw [u11, th_u_tag (by decide)]; exact e9
    have g12 : s.toInt = (I11 12 j n4).toInt := by rw [← e12]
    have e13 : v = I11 13 j n4 := by rw [u11, th_u_tag (by decide)]; exact e7
    have g13 : v.toInt = (I11 13 j n4).toInt := by rw [← e13]
    have e11 : x10 = I11 11 j 2 := by rw [u11, th_u_eq]
    have g11 : x10.toInt = (I11 11 j 2).toInt := by rw [← e11]
    exact th_vret C hQ dc_Q_append_37 (by decide) (by decide) ⟨_, rfl, rfl, hI11, trivial⟩

set_option maxRecDepth 100000 in
set_option maxHeartbeats 4000000 in
theorem c_Q_takeOut (l : Launch) (hl : l.stackTraces = false) {K sl : Int} {Z : th_I} (I : th_I) (j : Nat) (a : Int32) (hI : th_Inv K sl Z I) (hj : j < 10) (ha : 0 ≤ a.toInt ∧ a.toInt < (I 11 j 2).toInt) : th_F l yn_Q_takeOut cb_Q_takeOut 3 none { frames := 0, cells := 0, slots := 0, locals := 0 } [.inr (some (11, j)), .inl a] (th_m I) (th_rv (fun J => th_Inv K sl Z J ∧ (True))) := by
  refine th_of hl (by decide +kernel) (Nat.le_of_ble_eq_true rfl) (fun z C hQ hN => ?_)
  show th_G l z 3 0 [(0, .inr (some (11, j))), (1, .inl a)] [] (th_m I) 0 0
  have hb := hI.2.2.1
  have hlp := th_lp_le j
  have hs0 : 0 ≤ (I 11 j 2).toInt ∧ (I 11 j 2).toInt ≤ (th_lp j : Int) := hI.1 11 j 2
  refine th_iload_n C dc_Q_takeOut_0 rfl rfl ?_
  refine th_iconst (v := 1) C dc_Q_takeOut_1 th_c_1 ?_
  refine tq_iadd C dc_Q_takeOut_2 rfl th_l_1 (fun x1 e1 a1 => ?_)
  refine th_istore_n (lv' := [(0, .inr (some (11, j))), (1, .inl a), (2, .inl x1)]) C dc_Q_takeOut_3 rfl (by decide) rfl ?_
  have L4 : ∀ (N : Nat) (k : Int32) (I2 : th_I), (th_Inv K sl Z I2) → (1 ≤ k.toInt ∧ k.toInt ≤ 13 ∧ k.toInt ≤ (I 11 j 2).toInt) → ((I2 11 j 2).toInt = (I 11 j 2).toInt) → (13 - k.toInt).toNat < N → th_G l z 3 4 [(0, .inr (some (11, j))), (1, .inl a), (2, .inl k)] [] (th_m I2) 0 0 := by
    intro N
    induction N with
    | zero => intro k I2 hI2 h1 h2 hm; exact absurd hm (Nat.not_lt_zero _)
    | succ N ih =>
      intro k I2 hI2 h1 h2 hm
      refine th_iload_n C dc_Q_takeOut_4 rfl rfl ?_
      refine th_aload_n C dc_Q_takeOut_5 rfl rfl ?_
      refine tq_getI C dc_Q_takeOut_6 cl_11 fd_Q_18 rfl (show j < 10 from by omega) (fun x3 e3 => ?_)
      have g3 : x3.toInt = (I2 11 j 2).toInt := by rw [e3]
      have r3 : 0 ≤ x3.toInt ∧ x3.toInt ≤ (th_lp j : Int) := by rw [e3]; exact hI2.1 11 j 2
      refine tq_icmp_ge (tgt := 46) C dc_Q_takeOut_9 (by decide) rfl rfl (fun c4 => ?_) (fun c4 => ?_)
      · refine th_aload_n C dc_Q_takeOut_46 rfl rfl ?_
        refine th_dup C dc_Q_takeOut_47 ?_
        refine tq_getIe C dc_Q_takeOut_48 cl_11 fd_Q_18 rfl (show j < 10 from by omega) e3 ?_
        refine th_iconst (v := 1) C dc_Q_takeOut_51 th_c_1 ?_
        refine tq_isub C dc_Q_takeOut_52 rfl th_l_1 (fun x5 e5 a5 => ?_)
        refine tq_putI C dc_Q_takeOut_53 cl_11 fd_Q_18 rfl (show j < 10 from by omega) rfl rfl ?_
        refine th_gen (P := fun J => th_Inv K sl Z J ∧ J = th_u I2 11 j 2 x5) ⟨th_put hI2 (by decide) (show 0 ≤ x5.toInt ∧ x5.toInt ≤ (th_lp j : Int) from by omega), rfl⟩ (fun I6 hI6 => ?_)
        obtain ⟨hI6, u6⟩ := hI6
        have e6 : x5 = I6 11 j 2 := by rw [u6, th_u_eq]
        have g6 : x5.toInt = (I6 11 j 2).toInt := by rw [← e6]
        exact th_vret C hQ dc_Q_takeOut_56 (by decide) (by decide) ⟨_, rfl, rfl, hI6, trivial⟩
      · refine th_aload_n C dc_Q_takeOut_12 rfl rfl ?_
        refine tq_getR C dc_Q_takeOut_13 cl_11 fd_Q_9 rfl (show j < 10 from by omega) rfl ?_
        refine th_iload_n C dc_Q_takeOut_16 rfl rfl ?_
        refine th_iconst (v := 1) C dc_Q_takeOut_17 th_c_1 ?_
        refine tq_isub C dc_Q_takeOut_18 rfl th_l_1 (fun x7 e7 a7 => ?_)
        refine th_aload_n C dc_Q_takeOut_19 rfl rfl ?_
        refine tq_getR C dc_Q_takeOut_20 cl_11 fd_Q_9 rfl (show j < 10 from by omega) rfl ?_
        refine th_iload_n C dc_Q_takeOut_23 rfl rfl ?_
        obtain ⟨n9, m9⟩ := th_nat (a := k.toInt) (by omega)
        refine tq_ialdN C dc_Q_takeOut_24 rfl (fun _ => rfl) (show j < 10 from by omega) rfl m9 (show n9 < th_lp j from by omega) (fun x8 e8 => ?_)
        have g8 : x8.toInt = (I2 12 j n9).toInt := by rw [e8]
        have r8 : 0 ≤ x8.toInt ∧ x8.toInt ≤ 3 := by rw [e8]; exact hI2.1 12 j n9
        obtain ⟨n10, m10⟩ := th_nat (a := x7.toInt) (by omega)
        refine tq_iastN C dc_Q_takeOut_25 rfl (fun _ => rfl) (show j < 10 from by omega) rfl m10 (show n10 < th_lp j from by omega) ?_
        refine th_gen (P := fun J => th_Inv K sl Z J ∧ J = th_u I2 12 j n10 x8) ⟨th_put hI2 (by decide) (show 0 ≤ x8.toInt ∧ x8.toInt ≤ 3 from by omega), rfl⟩ (fun I11 hI11 => ?_)
        obtain ⟨hI11, u11⟩ := hI11
        have e12 : x3 = I11 11 j 2 := by rw [u11, th_u_tag (by decide)]; exact e3
        have g12 : x3.toInt = (I11 11 j 2).toInt := by rw [← e12]
        have e11 : x8 = I11 12 j n10 := by rw [u11, th_u_eq]
        have g11 : x8.toInt = (I11 12 j n10).toInt := by rw [← e11]
        refine th_aload_n C dc_Q_takeOut_26 rfl rfl ?_
        refine tq_getR C dc_Q_takeOut_27 cl_11 fd_Q_15 rfl (show j < 10 from by omega) rfl ?_
        refine th_iload_n C dc_Q_takeOut_30 rfl rfl ?_
        refine th_iconst (v := 1) C dc_Q_takeOut_31 th_c_1 ?_
        refine tq_isub C dc_Q_takeOut_32 rfl th_l_1 (fun x13 e13 a13 => ?_)
        refine th_aload_n C dc_Q_takeOut_33 rfl rfl ?_
        refine tq_getR C dc_Q_takeOut_34 cl_11 fd_Q_15 rfl (show j < 10 from by omega) rfl ?_
        refine th_iload_n C dc_Q_takeOut_37 rfl rfl ?_
        refine tq_ialdN C dc_Q_takeOut_38 rfl (fun _ => rfl) (show j < 10 from by omega) rfl m9 (show n9 < th_lp j from by omega) (fun x14 e14 => ?_)
        have g14 : x14.toInt = (I11 13 j n9).toInt := by rw [e14]
        obtain ⟨n15, m15⟩ := th_nat (a := x13.toInt) (by omega)
        refine tq_iastN C dc_Q_takeOut_39 rfl (fun _ => rfl) (show j < 10 from by omega) rfl m15 (show n15 < th_lp j from by omega) ?_
        refine th_gen (P := fun J => th_Inv K sl Z J ∧ J = th_u I11 13 j n15 x14) ⟨th_put hI11 (by decide) trivial, rfl⟩ (fun I16 hI16 => ?_)
        obtain ⟨hI16, u16⟩ := hI16
        have e17 : x3 = I16 11 j 2 := by rw [u16, th_u_tag (by decide)]; exact e12
        have g17 : x3.toInt = (I16 11 j 2).toInt := by rw [← e17]
        have e18 : x8 = I16 12 j n10 := by rw [u16, th_u_tag (by decide)]; exact e11
        have g18 : x8.toInt = (I16 12 j n10).toInt := by rw [← e18]
        have e16 : x14 = I16 13 j n15 := by rw [u16, th_u_eq]
        have g16 : x14.toInt = (I16 13 j n15).toInt := by rw [← e16]
        refine tq_iinc (lv' := fun rr => [(0, .inr (some (11, j))), (1, .inl a), (2, .inl rr)]) C dc_Q_takeOut_40 rfl (by decide) th_c_1 rfl th_l_1 (fun rr => rfl) (fun x19 e19 a19 => ?_)
        refine th_goto (tgt := 4) C dc_Q_takeOut_43 (by decide) ?_
        exact ih x19 I16 hI16 (by omega) (by omega) (by omega)
  exact L4 _ x1 I hI (by omega) (by omega) (Nat.lt_succ_self _)

set_option maxRecDepth 100000 in
set_option maxHeartbeats 4000000 in
theorem c_R_append (l : Launch) (hl : l.stackTraces = false) {K sl : Int} {Z : th_I} (I : th_I) (r : Nat) (t : Int32) (hI : th_Inv K sl Z I) (hr : r < 11) (ht : 0 ≤ t.toInt ∧ t.toInt ≤ 4) : th_F l yn_R_append cb_R_append 2 none { frames := 0, cells := 0, slots := 0, locals := 0 } [.inr (some (14, r)), .inl t] (th_m I) (th_rv (fun J => th_Inv K sl Z J ∧ (True))) := by
  refine th_of hl (by decide +kernel) (Nat.le_of_ble_eq_true rfl) (fun z C hQ hN => ?_)
  show th_G l z 2 0 [(0, .inr (some (14, r))), (1, .inl t)] [] (th_m I) 0 0
  have hb := hI.2.2.1
  refine th_aload_n C dc_R_append_0 rfl rfl ?_
  refine tq_getI C dc_R_append_1 cl_14 fd_R_15 rfl (show r < 11 from by omega) (fun x1 e1 => ?_)
  have g1 : x1.toInt = (I 14 r 1).toInt := by rw [e1]
  have r1 : 0 ≤ x1.toInt ∧ x1.toInt ≤ 5 := by rw [e1]; exact hI.1 14 r 1
  refine th_iconst (v := 5) C dc_R_append_4 th_c_5 ?_
  refine tq_icmp_ge (tgt := 28) C dc_R_append_5 (by decide) rfl th_l_5 (fun c2 => ?_) (fun c2 => ?_)
  · exact th_vret C hQ dc_R_append_28 (by decide) (by decide) ⟨_, rfl, rfl, hI, trivial⟩
  · refine th_aload_n C dc_R_append_8 rfl rfl ?_
    refine tq_getR C dc_R_append_9 cl_14 fd_R_9 rfl (show r < 11 from by omega) rfl ?_
    refine th_aload_n C dc_R_append_12 rfl rfl ?_
    refine tq_getIe C dc_R_append_13 cl_14 fd_R_15 rfl (show r < 11 from by omega) e1 ?_
    refine th_iload_n C dc_R_append_16 rfl rfl ?_
    obtain ⟨n3, m3⟩ := th_nat (a := x1.toInt) (by omega)
    refine tq_iastN C dc_R_append_17 rfl (fun _ => rfl) (show r < 11 from by omega) rfl m3 (show n3 < 5 from by omega) ?_
    refine th_gen (P := fun J => th_Inv K sl Z J ∧ J = th_u I 15 r n3 t) ⟨th_put hI (by decide) (show 0 ≤ t.toInt ∧ t.toInt ≤ 4 from by omega), rfl⟩ (fun I4 hI4 => ?_)
    obtain ⟨hI4, u4⟩ := hI4
    have e5 : x1 = I4 14 r 1 := by rw [u4, th_u_tag (by decide)]; exact e1
    have g5 : x1.toInt = (I4 14 r 1).toInt := by rw [← e5]
    have e4 : t = I4 15 r n3 := by rw [u4, th_u_eq]
    have g4 : t.toInt = (I4 15 r n3).toInt := by rw [← e4]
    refine th_aload_n C dc_R_append_18 rfl rfl ?_
    refine th_dup C dc_R_append_19 ?_
    refine tq_getIe C dc_R_append_20 cl_14 fd_R_15 rfl (show r < 11 from by omega) e5 ?_
    refine th_iconst (v := 1) C dc_R_append_23 th_c_1 ?_
    refine tq_iadd C dc_R_append_24 rfl th_l_1 (fun x6 e6 a6 => ?_)
    refine tq_putI C dc_R_append_25 cl_14 fd_R_15 rfl (show r < 11 from by omega) rfl rfl ?_
    refine th_gen (P := fun J => th_Inv K sl Z J ∧ J = th_u I4 14 r 1 x6) ⟨th_put hI4 (by decide) (show 0 ≤ x6.toInt ∧ x6.toInt ≤ 5 from by omega), rfl⟩ (fun I7 hI7 => ?_)
    obtain ⟨hI7, u7⟩ := hI7
    have e8 : t = I7 15 r n3 := by rw [u7, th_u_tag (by decide)]; exact e4
    have g8 : t.toInt = (I7 15 r n3).toInt := by rw [← e8]
    have e7 : x6 = I7 14 r 1 := by rw [u7, th_u_eq]
    have g7 : x6.toInt = (I7 14 r 1).toInt := by rw [← e7]
    exact th_vret C hQ dc_R_append_28 (by decide) (by decide) ⟨_, rfl, rfl, hI7, trivial⟩

set_option maxRecDepth 100000 in
set_option maxHeartbeats 4000000 in
theorem c_R_takeOut (l : Launch) (hl : l.stackTraces = false) {K sl : Int} {Z : th_I} (I : th_I) (r : Nat) (t : Int32) (hI : th_Inv K sl Z I) (hr : r < 11) : th_F l yn_R_takeOut cb_R_takeOut 4 none { frames := 0, cells := 0, slots := 0, locals := 0 } [.inr (some (14, r)), .inl t] (th_m I) (th_rv (fun J => th_Inv K sl Z J ∧ (True))) := by
  refine th_of hl (by decide +kernel) (Nat.le_of_ble_eq_true rfl) (fun z C hQ hN => ?_)
  show th_G l z 4 0 [(0, .inr (some (14, r))), (1, .inl t)] [] (th_m I) 0 0
  have hb := hI.2.2.1
  have hs0 : 0 ≤ (I 14 r 1).toInt ∧ (I 14 r 1).toInt ≤ 5 := hI.1 14 r 1
  refine th_iconst (v := 0) C dc_R_takeOut_0 th_c_0 ?_
  refine th_istore_n (lv' := [(0, .inr (some (14, r))), (1, .inl t), (2, .inl ((0 : Int32)))]) C dc_R_takeOut_1 rfl (by decide) rfl ?_
  refine th_iconst (v := 0) C dc_R_takeOut_2 th_c_0 ?_
  refine th_istore_n (lv' := [(0, .inr (some (14, r))), (1, .inl t), (2, .inl ((0 : Int32))), (3, .inl ((0 : Int32)))]) C dc_R_takeOut_3 rfl (by decide) rfl ?_
  have L4 : ∀ (N : Nat) (a : Int32) (k : Int32) (I1 : th_I), (th_Inv K sl Z I1) → (0 ≤ a.toInt ∧ a.toInt ≤ k.toInt ∧ k.toInt ≤ (I1 14 r 1).toInt) → (5 - k.toInt).toNat < N → th_G l z 4 4 [(0, .inr (some (14, r))), (1, .inl t), (2, .inl a), (3, .inl k)] [] (th_m I1) 0 0 := by
    intro N
    induction N with
    | zero => intro a k I1 hI1 h1 hm; exact absurd hm (Nat.not_lt_zero _)
    | succ N ih =>
      intro a k I1 hI1 h1 hm
      refine th_iload_n C dc_R_takeOut_4 rfl rfl ?_
      refine th_aload_n C dc_R_takeOut_5 rfl rfl ?_
      refine tq_getI C dc_R_takeOut_6 cl_14 fd_R_15 rfl (show r < 11 from by omega) (fun x2 e2 => ?_)
      have g2 : x2.toInt = (I1 14 r 1).toInt := by rw [e2]
      have r2 : 0 ≤ x2.toInt ∧ x2.toInt ≤ 5 := by rw [e2]; exact hI1.1 14 r 1
      refine tq_icmp_ge (tgt := 43) C dc_R_takeOut_9 (by decide) rfl rfl (fun c3 => ?_) (fun c3 => ?_)
      · refine th_aload_n C dc_R_takeOut_43 rfl rfl ?_
        refine th_iload_n C dc_R_takeOut_44 rfl rfl ?_
        refine tq_putI C dc_R_takeOut_45 cl_14 fd_R_15 rfl (show r < 11 from by omega) rfl rfl ?_
        refine th_gen (P := fun J => th_Inv K sl Z J ∧ J = th_u I1 14 r 1 a) ⟨th_put hI1 (by decide) (show 0 ≤ a.toInt ∧ a.toInt ≤ 5 from by omega), rfl⟩ (fun I4 hI4 => ?_)
        obtain ⟨hI4, u4⟩ := hI4
        have e4 : a = I4 14 r 1 := by rw [u4, th_u_eq]
        have g4 : a.toInt = (I4 14 r 1).toInt := by rw [← e4]
        exact th_vret C hQ dc_R_takeOut_48 (by decide) (by decide) ⟨_, rfl, rfl, hI4, trivial⟩
      · refine th_aload_n C dc_R_takeOut_12 rfl rfl ?_
        refine tq_getR C dc_R_takeOut_13 cl_14 fd_R_9 rfl (show r < 11 from by omega) rfl ?_
        refine th_iload_n C dc_R_takeOut_16 rfl rfl ?_
        obtain ⟨n6, m6⟩ := th_nat (a := k.toInt) (by omega)
        refine tq_ialdN C dc_R_takeOut_17 rfl (fun _ => rfl) (show r < 11 from by omega) rfl m6 (show n6 < 5 from by omega) (fun x5 e5 => ?_)
        have g5 : x5.toInt = (I1 15 r n6).toInt := by rw [e5]
        have r5 : 0 ≤ x5.toInt ∧ x5.toInt ≤ 4 := by rw [e5]; exact hI1.1 15 r n6
        refine th_iload_n C dc_R_takeOut_18 rfl rfl ?_
        refine tq_icmp_eq (tgt := 37) C dc_R_takeOut_19 (by decide) rfl rfl (fun c7 => ?_) (fun c7 => ?_)
        · refine tq_iinc (lv' := fun rr => [(0, .inr (some (14, r))), (1, .inl t), (2, .inl a), (3, .inl rr)]) C dc_R_takeOut_37 rfl (by decide) th_c_1 rfl th_l_1 (fun rr => rfl) (fun x8 e8 a8 => ?_)
          refine th_goto (tgt := 4) C dc_R_takeOut_40 (by decide) ?_
          exact ih a x8 I1 hI1 (by omega) (by omega)
        · refine th_aload_n C dc_R_takeOut_22 rfl rfl ?_
          refine tq_getR C dc_R_takeOut_23 cl_14 fd_R_9 rfl (show r < 11 from by omega) rfl ?_
          refine th_iload_n C dc_R_takeOut_26 rfl rfl ?_
          refine th_aload_n C dc_R_takeOut_27 rfl rfl ?_
          refine tq_getR C dc_R_takeOut_28 cl_14 fd_R_9 rfl (show r < 11 from by omega) rfl ?_
          refine th_iload_n C dc_R_takeOut_31 rfl rfl ?_
          refine tq_ialdE C dc_R_takeOut_32 rfl (fun _ => rfl) (show r < 11 from by omega) rfl m6 (show n6 < 5 from by omega) e5 ?_
          obtain ⟨n10, m10⟩ := th_nat (a := a.toInt) (by omega)
          refine tq_iastN C dc_R_takeOut_33 rfl (fun _ => rfl) (show r < 11 from by omega) rfl m10 (show n10 < 5 from by omega) ?_
          refine th_gen (P := fun J => th_Inv K sl Z J ∧ J = th_u I1 15 r n10 x5) ⟨th_put hI1 (by decide) (show 0 ≤ x5.toInt ∧ x5.toInt ≤ 4 from by omega), rfl⟩ (fun I11 hI11 => ?_)
          obtain ⟨hI11, u11⟩ := hI11
          have e12 : x2 = I11 14 r 1 := by rw [u11, th_u_tag (by decide)]; exact e2
          have g12 : x2.toInt = (I11 14 r 1).toInt := by rw [← e12]
          have e11 : x5 = I11 15 r n10 := by rw [u11, th_u_eq]
          have g11 : x5.toInt = (I11 15 r n10).toInt := by rw [← e11]
          refine tq_iinc (lv' := fun rr => [(0, .inr (some (14, r))), (1, .inl t), (2, .inl rr), (3, .inl k)]) C dc_R_takeOut_34 rfl (by decide) th_c_1 rfl th_l_1 (fun rr => rfl) (fun x13 e13 a13 => ?_)
          refine tq_iinc (lv' := fun rr => [(0, .inr (some (14, r))), (1, .inl t), (2, .inl x13), (3, .inl rr)]) C dc_R_takeOut_37 rfl (by decide) th_c_1 rfl th_l_1 (fun rr => rfl) (fun x14 e14 a14 => ?_)
          refine th_goto (tgt := 4) C dc_R_takeOut_40 (by decide) ?_
          exact ih x13 x14 I11 hI11 (by omega) (by omega)
  exact L4 _ ((0 : Int32)) ((0 : Int32)) I hI (by have := th_l_0; omega) (Nat.lt_succ_self _)

set_option maxRecDepth 100000 in
set_option maxHeartbeats 4000000 in
theorem c_R_takeFirst (l : Launch) (hl : l.stackTraces = false) {K sl : Int} {Z : th_I} (I : th_I) (r : Nat) (hI : th_Inv K sl Z I) (hr : r < 11) : th_F l yn_R_takeFirst cb_R_takeFirst 2 (some .int) { frames := 1, cells := 0, slots := 0, locals := 23 } [.inr (some (14, r))] (th_m I) (th_ri (fun x J => th_Inv K sl Z J ∧ (-1 ≤ x.toInt ∧ x.toInt ≤ 4))) := by
  refine th_of hl (by decide +kernel) (Nat.le_of_ble_eq_true rfl) (fun z C hQ hN => ?_)
  show th_G l z 2 0 [(0, .inr (some (14, r)))] [] (th_m I) 0 0
  have hb := hI.2.2.1
  refine th_aload_n C dc_R_takeFirst_0 rfl rfl ?_
  refine tq_getI C dc_R_takeFirst_1 cl_14 fd_R_15 rfl (show r < 11 from by omega) (fun x1 e1 => ?_)
  have g1 : x1.toInt = (I 14 r 1).toInt := by rw [e1]
  have r1 : 0 ≤ x1.toInt ∧ x1.toInt ≤ 5 := by rw [e1]; exact hI.1 14 r 1
  refine tq_if_ne (tgt := 9) C dc_R_takeFirst_4 (by decide) rfl (fun c2 => ?_) (fun c2 => ?_)
  · refine th_aload_n C dc_R_takeFirst_9 rfl rfl ?_
    refine tq_getR C dc_R_takeFirst_10 cl_14 fd_R_9 rfl (show r < 11 from by omega) rfl ?_
    refine th_iconst (v := 0) C dc_R_takeFirst_13 th_c_0 ?_
    refine tq_ialdN C dc_R_takeFirst_14 rfl (fun _ => rfl) (show r < 11 from by omega) th_l_0 (by decide) (show 0 < 5 from by omega) (fun x3 e3 => ?_)
    have g3 : x3.toInt = (I 15 r 0).toInt := by rw [e3]
    have r3 : 0 ≤ x3.toInt ∧ x3.toInt ≤ 4 := by rw [e3]; exact hI.1 15 r 0
    refine th_istore_n (lv' := [(0, .inr (some (14, r))), (1, .inl x3)]) C dc_R_takeFirst_15 rfl (by decide) rfl ?_
    refine th_aload_n C dc_R_takeFirst_16 rfl rfl ?_
    refine th_iload_n C dc_R_takeFirst_17 rfl rfl ?_
    refine tq_callVv C (c_R_takeOut l hl I r x3 hI (by omega)) ok_R_19 cl_14 (show r < 11 from by omega) rfl (Nat.le_of_ble_eq_true rfl) dc_R_takeFirst_18 rfl (fun I4 p4 => ?_)
    obtain ⟨hI4, p4⟩ := p4
    refine th_iload_n C dc_R_takeFirst_21 rfl rfl ?_
    exact th_iret C hQ dc_R_takeFirst_22 (by decide) (by decide) ⟨_, _, rfl, rfl, hI4, (by first | omega | (dsimp only; omega))⟩
  · refine th_iconst (v := -1) C dc_R_takeFirst_7 th_c_m1 ?_
    exact th_iret C hQ dc_R_takeFirst_8 (by decide) (by decide) ⟨_, _, rfl, rfl, hI, (by have := th_l_m1; first | omega | (dsimp only; omega))⟩

set_option maxRecDepth 100000 in
set_option maxHeartbeats 4000000 in
theorem c_M_isOpenTo (l : Launch) (hl : l.stackTraces = false) (I : th_I) (m : Nat) (t : Int32) (hm : m < 3) : th_F l yn_M_isOpenTo cb_M_isOpenTo 2 (some .boolean) { frames := 0, cells := 0, slots := 0, locals := 0 } [.inr (some (16, m)), .inl t] (th_m I) (th_rp I (fun x => x.toInt = 1 ∨ x.toInt = 0)) := by
  refine th_of hl (by decide +kernel) (Nat.le_of_ble_eq_true rfl) (fun z C hQ hN => ?_)
  show th_G l z 2 0 [(0, .inr (some (16, m))), (1, .inl t)] [] (th_m I) 0 0
  refine th_aload_n C dc_M_isOpenTo_0 rfl rfl ?_
  refine tq_getI C dc_M_isOpenTo_1 cl_16 fd_M_18 rfl (show m < 3 from by omega) (fun x1 e1 => ?_)
  have g1 : x1.toInt = (I 16 m 1).toInt := by rw [e1]
  refine th_iconst (v := -1) C dc_M_isOpenTo_4 th_c_m1 ?_
  refine tq_icmp_eq (tgt := 16) C dc_M_isOpenTo_5 (by decide) rfl th_l_m1 (fun c2 => ?_) (fun c2 => ?_)
  · refine th_iconst (v := 1) C dc_M_isOpenTo_16 th_c_1 ?_
    refine th_goto (tgt := 21) C dc_M_isOpenTo_17 (by decide) ?_
    exact th_zret C hQ dc_M_isOpenTo_21 (rfl) (by decide) (by decide) ⟨_, rfl, rfl, (by have := th_l_1; first | omega | (dsimp only; omega))⟩
  · refine th_aload_n C dc_M_isOpenTo_8 rfl rfl ?_
    refine tq_getIe C dc_M_isOpenTo_9 cl_16 fd_M_18 rfl (show m < 3 from by omega) e1 ?_
    refine th_iload_n C dc_M_isOpenTo_12 rfl rfl ?_
    refine tq_icmp_ne (tgt := 20) C dc_M_isOpenTo_13 (by decide) rfl rfl (fun c3 => ?_) (fun c3 => ?_)
    · refine th_iconst (v := 0) C dc_M_isOpenTo_20 th_c_0 ?_
      exact th_zret C hQ dc_M_isOpenTo_21 (rfl) (by decide) (by decide) ⟨_, rfl, rfl, (by have := th_l_0; first | omega | (dsimp only; omega))⟩
    · refine th_iconst (v := 1) C dc_M_isOpenTo_16 th_c_1 ?_
      refine th_goto (tgt := 21) C dc_M_isOpenTo_17 (by decide) ?_
      exact th_zret C hQ dc_M_isOpenTo_21 (rfl) (by decide) (by decide) ⟨_, rfl, rfl, (by have := th_l_1; first | omega | (dsimp only; omega))⟩

set_option maxRecDepth 100000 in
set_option maxHeartbeats 4000000 in
theorem c_M_give (l : Launch) (hl : l.stackTraces = false) {K sl : Int} {Z : th_I} (I : th_I) (m : Nat) (t : Int32) (v : Int32) (hI : th_Inv K sl Z I) (hm : m < 3) : th_F l yn_M_give cb_M_give 3 none { frames := 0, cells := 0, slots := 0, locals := 0 } [.inr (some (16, m)), .inl t, .inl v] (th_m I) (th_rv (fun J => th_Inv K sl Z J ∧ (True))) := by
  refine th_of hl (by decide +kernel) (Nat.le_of_ble_eq_true rfl) (fun z C hQ hN => ?_)
  show th_G l z 3 0 [(0, .inr (some (16, m))), (1, .inl t), (2, .inl v)] [] (th_m I) 0 0
  have hb := hI.2.2.1
  refine th_aload_n C dc_M_give_0 rfl rfl ?_
  refine th_iload_n C dc_M_give_1 rfl rfl ?_
  refine tq_putI C dc_M_give_2 cl_16 fd_M_18 rfl (show m < 3 from by omega) rfl rfl ?_
  refine th_gen (P := fun J => th_Inv K sl Z J ∧ J = th_u I 16 m 1 t) ⟨th_put hI (by decide) trivial, rfl⟩ (fun I1 hI1 => ?_)
  obtain ⟨hI1, u1⟩ := hI1
  have e1 : t = I1 16 m 1 := by rw [u1, th_u_eq]
  have g1 : t.toInt = (I1 16 m 1).toInt := by rw [← e1]
  refine th_aload_n C dc_M_give_5 rfl rfl ?_
  refine th_dup C dc_M_give_6 ?_
  refine tq_getI C dc_M_give_7 cl_16 fd_M_22 rfl (show m < 3 from by omega) (fun x2 e2 => ?_)
  have g2 : x2.toInt = (I1 16 m 2).toInt := by rw [e2]
  refine th_iload_n C dc_M_give_10 rfl rfl ?_
  refine tq_iadd C dc_M_give_11 rfl rfl (fun x3 e3 a3 => ?_)
  refine tq_putI C dc_M_give_12 cl_16 fd_M_22 rfl (show m < 3 from by omega) rfl rfl ?_
  refine th_gen (P := fun J => th_Inv K sl Z J ∧ J = th_u I1 16 m 2 x3) ⟨th_put hI1 (by decide) trivial, rfl⟩ (fun I4 hI4 => ?_)
  obtain ⟨hI4, u4⟩ := hI4
  have e5 : t = I4 16 m 1 := by rw [u4, th_u_slot (by decide)]; exact e1
  have g5 : t.toInt = (I4 16 m 1).toInt := by rw [← e5]
  have e4 : x3 = I4 16 m 2 := by rw [u4, th_u_eq]
  have g4 : x3.toInt = (I4 16 m 2).toInt := by rw [← e4]
  exact th_vret C hQ dc_M_give_15 (by decide) (by decide) ⟨_, rfl, rfl, hI4, trivial⟩

set_option maxRecDepth 100000 in
set_option maxHeartbeats 4000000 in
theorem c_H_requireBetween (l : Launch) (hl : l.stackTraces = false) (I : th_I) (v : Int32) (a : Int32) (b : Int32) : th_F l yn_H_requireBetween cb_H_requireBetween 3 none { frames := 6, cells := 1, slots := 6, locals := 89 } [.inl v, .inl a, .inl b] (th_m I) (th_rt I (a.toInt ≤ v.toInt ∧ v.toInt ≤ b.toInt) (fun E => E = th_IAE ∧ ¬ (a.toInt ≤ v.toInt ∧ v.toInt ≤ b.toInt))) := by
  refine th_of hl (by decide +kernel) (Nat.le_of_ble_eq_true rfl) (fun z C hQ hN => ?_)
  show th_G l z 3 0 [(0, .inl v), (1, .inl a), (2, .inl b)] [] (th_m I) 0 0
  refine th_iload_n C dc_H_requireBetween_0 rfl rfl ?_
  refine th_iload_n C dc_H_requireBetween_1 rfl rfl ?_
  refine tq_icmp_lt (tgt := 10) C dc_H_requireBetween_2 (by decide) rfl rfl (fun c1 => ?_) (fun c1 => ?_)
  · exact th_throw C hQ okT_H_143 dc_H_requireBetween_10 dc_H_requireBetween_13 dc_H_requireBetween_14 dc_H_requireBetween_17 (fun _ h => nomatch h) (by decide) (by decide) (by decide) (by decide) (by decide) (by decide) rfl (Or.inr ⟨_, rfl, rfl, rfl, by first | omega | (dsimp only; omega)⟩)
  · refine th_iload_n C dc_H_requireBetween_5 rfl rfl ?_
    refine th_iload_n C dc_H_requireBetween_6 rfl rfl ?_
    refine tq_icmp_le (tgt := 18) C dc_H_requireBetween_7 (by decide) rfl rfl (fun c2 => ?_) (fun c2 => ?_)
    · exact th_vret C hQ dc_H_requireBetween_18 (by decide) (by decide) (Or.inl ⟨rfl, rfl, (by first | omega | (dsimp only; omega))⟩)
    · exact th_throw C hQ okT_H_143 dc_H_requireBetween_10 dc_H_requireBetween_13 dc_H_requireBetween_14 dc_H_requireBetween_17 (fun _ h => nomatch h) (by decide) (by decide) (by decide) (by decide) (by decide) (by decide) rfl (Or.inr ⟨_, rfl, rfl, rfl, by first | omega | (dsimp only; omega)⟩)

set_option maxRecDepth 100000 in
set_option maxHeartbeats 4000000 in
theorem c_H_requireBelow (l : Launch) (hl : l.stackTraces = false) (I : th_I) (v : Int32) (n : Int32) (hn : 0 ≤ n.toInt) : th_F l yn_H_requireBelow cb_H_requireBelow 2 none { frames := 7, cells := 1, slots := 6, locals := 111 } [.inl v, .inl n] (th_m I) (th_rt I (0 ≤ v.toInt ∧ v.toInt < n.toInt) (fun E => E = th_IAE ∧ ¬ (0 ≤ v.toInt ∧ v.toInt < n.toInt))) := by
  refine th_of hl (by decide +kernel) (Nat.le_of_ble_eq_true rfl) (fun z C hQ hN => ?_)
  show th_G l z 2 0 [(0, .inl v), (1, .inl n)] [] (th_m I) 0 0
  have hn2 := th_lt n
  refine th_iload_n C dc_H_requireBelow_0 rfl rfl ?_
  refine th_iconst (v := 0) C dc_H_requireBelow_1 th_c_0 ?_
  refine th_iload_n C dc_H_requireBelow_2 rfl rfl ?_
  refine th_iconst (v := 1) C dc_H_requireBelow_3 th_c_1 ?_
  refine tq_isub C dc_H_requireBelow_4 rfl th_l_1 (fun x1 e1 a1 => ?_)
  refine tq_callSt C (c_H_requireBetween l hl I v ((0 : Int32)) x1) ok_H_86 rfl (Nat.le_of_ble_eq_true rfl) dc_H_requireBelow_5 rfl (fun E pE => th_outX C hQ (fun _ h => nomatch h) (by decide) (by decide) (Or.inr ⟨E, rfl, rfl, pE.1, by have := th_l_0; first | omega | (dsimp only; omega)⟩)) (fun p2 => ?_)
  try simp only [th_l_0] at p2
  exact th_vret C hQ dc_H_requireBelow_8 (by decide) (by decide) (Or.inl ⟨rfl, rfl, (by first | omega | (dsimp only; omega))⟩)

set_option maxRecDepth 100000 in
set_option maxHeartbeats 4000000 in
theorem c_H_requireOperand (l : Launch) (hl : l.stackTraces = false) (I : th_I) (v : Int32) (n : Int32) : th_F l yn_H_requireOperand cb_H_requireOperand 2 none { frames := 8, cells := 1, slots := 6, locals := 132 } [.inl v, .inl n] (th_m I) (th_rt I (0 < n.toInt → 0 ≤ v.toInt ∧ v.toInt < n.toInt) (fun E => E = th_IAE ∧ 0 < n.toInt ∧ ¬ (0 ≤ v.toInt ∧ v.toInt < n.toInt))) := by
  refine th_of hl (by decide +kernel) (Nat.le_of_ble_eq_true rfl) (fun z C hQ hN => ?_)
  show th_G l z 2 0 [(0, .inl v), (1, .inl n)] [] (th_m I) 0 0
  refine th_iload_n C dc_H_requireOperand_0 rfl rfl ?_
  refine tq_if_le (tgt := 9) C dc_H_requireOperand_1 (by decide) rfl (fun c1 => ?_) (fun c1 => ?_)
  · exact th_vret C hQ dc_H_requireOperand_9 (by decide) (by decide) (Or.inl ⟨rfl, rfl, (by first | omega | (dsimp only; omega))⟩)
  · refine th_iload_n C dc_H_requireOperand_4 rfl rfl ?_
    refine th_iload_n C dc_H_requireOperand_5 rfl rfl ?_
    refine tq_callSt C (c_H_requireBelow l hl I v n (by omega)) ok_H_46 rfl (Nat.le_of_ble_eq_true rfl) dc_H_requireOperand_6 rfl (fun E pE => th_outX C hQ (fun _ h => nomatch h) (by decide) (by decide) (Or.inr ⟨E, rfl, rfl, pE.1, by first | omega | (dsimp only; omega)⟩)) (fun p2 => ?_)
    exact th_vret C hQ dc_H_requireOperand_9 (by decide) (by decide) (Or.inl ⟨rfl, rfl, (by first | omega | (dsimp only; omega))⟩)

set_option maxRecDepth 100000 in
set_option maxHeartbeats 4000000 in
theorem c_H_requireNotAlive (l : Launch) (hl : l.stackTraces = false) (I : th_I) (i : Nat) (hi : i < 5) : th_F l yn_H_requireNotAlive cb_H_requireNotAlive 1 none { frames := 6, cells := 1, slots := 6, locals := 89 } [.inr (some (6, i))] (th_m I) (th_rt I ((I 6 i 5).toInt = 0 ∨ (I 6 i 5).toInt = 5) (fun E => E = th_ISE ∧ (I 6 i 5).toInt ≠ 0 ∧ (I 6 i 5).toInt ≠ 5)) := by
  refine th_of hl (by decide +kernel) (Nat.le_of_ble_eq_true rfl) (fun z C hQ hN => ?_)
  show th_G l z 1 0 [(0, .inr (some (6, i)))] [] (th_m I) 0 0
  refine th_aload_n C dc_H_requireNotAlive_0 rfl rfl ?_
  refine tq_callVp C (c_S_isAlive l hl I i (by omega)) ok_H_79 cl_6 (show i < 5 from by omega) rfl (Nat.le_of_ble_eq_true rfl) dc_H_requireNotAlive_1 rfl (fun x1 p1 => ?_)
  refine tq_if_eq (tgt := 15) C dc_H_requireNotAlive_4 (by decide) rfl (fun c2 => ?_) (fun c2 => ?_)
  · exact th_vret C hQ dc_H_requireNotAlive_15 (by decide) (by decide) (Or.inl ⟨rfl, rfl, (by first | omega | (dsimp only; omega))⟩)
  · exact th_throw C hQ okT_H_173 dc_H_requireNotAlive_7 dc_H_requireNotAlive_10 dc_H_requireNotAlive_11 dc_H_requireNotAlive_14 (fun _ h => nomatch h) (by decide) (by decide) (by decide) (by decide) (by decide) (by decide) rfl (Or.inr ⟨_, rfl, rfl, rfl, by first | omega | (dsimp only; omega)⟩)

