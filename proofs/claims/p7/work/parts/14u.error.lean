set_option maxRecDepth 100000 in
set_option maxHeartbeats 4000000 in
theorem o_O_error (l : Launch) (hl : l.stackTraces = false) {K sl : Int} {Z : th_I} (I : th_I) (t : Int32) (c : Int32) (tn : Nat) (hI : th_OI K sl Z I) (htn : (tn : Int) = t.toInt) (ht : 0 ≤ t.toInt ∧ t.toInt ≤ 4) (hs : (I 32 0 tn).toInt = 1) : th_F l yn_O_error cb_O_error 3 none { frames := 3, cells := 0, slots := 0, locals := 71 } [.inr (some (20, 0)), .inl t, .inl c] (th_m I) (th_rv (fun J => th_OI K sl Z J ∧ (True))) := by
  refine th_of hl (by decide +kernel) (Nat.le_of_ble_eq_true rfl) (fun z C hQ hN => ?_)
  show th_G l z 3 0 [(0, .inr (some (20, 0))), (1, .inl t), (2, .inl c)] [] (th_m I) 0 0
  have hb := hI.2.2.1
  refine th_aload_n C dc_O_error_0 rfl rfl ?_
  refine tq_getR C dc_O_error_1 cl_20 fd_O_107 rfl (show 0 < 1 from by omega) rfl ?_
  refine th_iconst (v := 5) C dc_O_error_4 th_c_5 ?_
  refine th_dup2 C dc_O_error_5 ?_
  refine tq_ialdN C dc_O_error_6 rfl (fun _ => rfl) (show 0 < 1 from by omega) th_l_5 (by decide) (show 5 < 8 from by omega) (fun x1 e1 => ?_)
  have g1 : x1.toInt = (I 53 0 5).toInt := by rw [e1]
  refine th_iconst (v := 1) C dc_O_error_7 th_c_1 ?_
  refine tq_iadd C dc_O_error_8 rfl th_l_1 (fun x2 e2 a2 => ?_)
  refine tq_iastN C dc_O_error_9 rfl (fun _ => rfl) (show 0 < 1 from by omega) th_l_5 (by decide) (show 5 < 8 from by omega) ?_
  refine th_gen (P := fun J => th_OI K sl Z J ∧ J = th_u I 53 0 5 x2) ⟨ro_put hI rfl trivial, rfl⟩ (fun I3 hI3 => ?_)
  obtain ⟨hI3, u3⟩ := hI3
  have e3 : x2 = I3 53 0 5 := by rw [u3, th_u_eq]
  have g3 : x2.toInt = (I3 53 0 5).toInt := by rw [← e3]
  refine th_aload_n C dc_O_error_10 rfl rfl ?_
  refine tq_getR C dc_O_error_11 cl_20 fd_O_52 rfl (show 0 < 1 from by omega) rfl ?_
  refine th_iload_n C dc_O_error_14 rfl rfl ?_
  refine tq_ialdN C dc_O_error_15 rfl (fun _ => rfl) (show 0 < 1 from by omega) rfl htn (show tn < 5 from by omega) (fun x4 e4 => ?_)
  have g4 : x4.toInt = (I3 35 0 tn).toInt := by rw [e4]
  have r4 : 0 ≤ x4.toInt ∧ x4.toInt ≤ 24 := by rw [e4]; exact hI3.1 35 0 tn
  refine th_bipush (v := 24) C dc_O_error_16 th_b_24 ?_
  refine tq_icmp_ne (tgt := 29) C dc_O_error_18 (by decide) rfl th_l_24 (fun c5 => ?_) (fun c5 => ?_)
  · refine th_aload_n C dc_O_error_29 rfl rfl ?_
    refine tq_getR C dc_O_error_30 cl_20 fd_O_46 rfl (show 0 < 1 from by omega) rfl ?_
    refine th_iload_n C dc_O_error_33 rfl rfl ?_
    refine th_aload_n C dc_O_error_34 rfl rfl ?_
    refine tq_getR C dc_O_error_35 cl_20 fd_O_52 rfl (show 0 < 1 from by omega) rfl ?_
    refine th_iload_n C dc_O_error_38 rfl rfl ?_
    refine tq_ialdE C dc_O_error_39 rfl (fun _ => rfl) (show 0 < 1 from by omega) rfl htn (show tn < 5 from by omega) e4 ?_
    refine tq_iastN C dc_O_error_40 rfl (fun _ => rfl) (show 0 < 1 from by omega) rfl htn (show tn < 5 from by omega) ?_
    refine th_gen (P := fun J => th_OI K sl Z J ∧ J = th_u I3 33 0 tn x4) ⟨ro_put hI3 rfl (show 0 ≤ x4.toInt ∧ x4.toInt ≤ 24 from by omega), rfl⟩ (fun I7 hI7 => ?_)
    obtain ⟨hI7, u7⟩ := hI7
    have e8 : x2 = I7 53 0 5 := by rw [u7, th_u_tag (by decide)]; exact e3
    have g8 : x2.toInt = (I7 53 0 5).toInt := by rw [← e8]
    have e9 : x4 = I7 35 0 tn := by rw [u7, th_u_tag (by decide)]; exact e4
    have g9 : x4.toInt = (I7 35 0 tn).toInt := by rw [← e9]
    have e7 : x4 = I7 33 0 tn := by rw [u7, th_u_eq]
    have g7 : x4.toInt = (I7 33 0 tn).toInt := by rw [← e7]
    refine th_aload_n C dc_O_error_41 rfl rfl ?_
    refine tq_getR C dc_O_error_42 cl_20 fd_O_52 rfl (show 0 < 1 from by omega) rfl ?_
    refine th_iload_n C dc_O_error_45 rfl rfl ?_
    refine th_bipush (v := 24) C dc_O_error_46 th_b_24 ?_
    refine tq_iastN C dc_O_error_48 rfl (fun _ => rfl) (show 0 < 1 from by omega) rfl htn (show tn < 5 from by omega) ?_
    refine th_gen (P := fun J => th_OI K sl Z J ∧ J = th_u I7 35 0 tn ((24 : Int32))) ⟨ro_put hI7 rfl (show 0 ≤ (24 : Int32).toInt ∧ (24 : Int32).toInt ≤ 24 from by rw [th_l_24]; omega), rfl⟩ (fun I10 hI10 => ?_)
    obtain ⟨hI10, u10⟩ := hI10
    have e11 : x2 = I10 53 0 5 := by rw [u10, th_u_tag (by decide)]; exact e8
    have g11 : x2.toInt = (I10 53 0 5).toInt := by rw [← e11]
    have e12 : x4 = I10 33 0 tn := by rw [u10, th_u_tag (by decide)]; exact e7
    have g12 : x4.toInt = (I10 33 0 tn).toInt := by rw [← e12]
    have e10 : (24 : Int32) = I10 35 0 tn := by rw [u10, th_u_eq]
    have g10 : 24 = (I10 35 0 tn).toInt := by rw [← e10]; exact th_l_24.symm
    refine th_aload_n C dc_O_error_49 rfl rfl ?_
    refine th_iload_n C dc_O_error_50 rfl rfl ?_
    refine th_iconst (v := 3) C dc_O_error_51 th_c_3 ?_
    refine th_iload_n C dc_O_error_52 rfl rfl ?_
    refine tq_callVv C (o_O_put l hl I10 t ((3 : Int32)) c hI10 (by have := th_l_3; omega) (by have := th_l_3; omega)) ok_O_139 cl_20 (show 0 < 1 from by omega) rfl (Nat.le_of_ble_eq_true rfl) dc_O_error_53 rfl (fun I13 p13 => ?_)
    obtain ⟨hI13, p13⟩ := p13
    try simp only [th_l_3] at p13
    exact th_vret C hQ dc_O_error_56 (by decide) (by decide) ⟨_, rfl, rfl, hI13, trivial⟩
  · refine th_aload_n C dc_O_error_21 rfl rfl ?_
    refine th_iload_n C dc_O_error_22 rfl rfl ?_
    refine th_iload_n C dc_O_error_23 rfl rfl ?_
    refine tq_ineg C dc_O_error_24 (fun x14 e14 => ?_)
    refine tq_callVv C (o_O_end l hl I3 t x14 tn hI3 htn (by omega) (by rw [u3, th_u_tag (by decide)]; exact hs)) ok_O_147 cl_20 (show 0 < 1 from by omega) rfl (Nat.le_of_ble_eq_true rfl) dc_O_error_25 rfl (fun I15 p15 => ?_)
    obtain ⟨hI15, p15⟩ := p15
    exact th_vret C hQ dc_O_error_28 (by decide) (by decide) ⟨_, rfl, rfl, hI15, trivial⟩

set_option maxRecDepth 100000 in
set_option maxHeartbeats 4000000 in
theorem o_O_isStopped (l : Launch) (hl : l.stackTraces = false) {K sl : Int} {Z : th_I} (I : th_I) (t : Int32) (tn : Nat) (hI : th_OI K sl Z I) (htn : (tn : Int) = t.toInt) (ht : 0 ≤ t.toInt ∧ t.toInt ≤ 4) (hs : (I 32 0 tn).toInt = 1) : th_F l yn_O_isStopped cb_O_isStopped 2 (some .boolean) { frames := 4, cells := 0, slots := 0, locals := 93 } [.inr (some (20, 0)), .inl t] (th_m I) (th_ri (fun x J => th_OI K sl Z J ∧ (x.toInt = 0 ∧ J = I ∨ x.toInt = 1))) := by
  refine th_of hl (by decide +kernel) (Nat.le_of_ble_eq_true rfl) (fun z C hQ hN => ?_)
  show th_G l z 2 0 [(0, .inr (some (20, 0))), (1, .inl t)] [] (th_m I) 0 0
  have hb := hI.2.2.1
  refine th_aload_n C dc_O_isStopped_0 rfl rfl ?_
  refine tq_getR C dc_O_isStopped_1 cl_20 fd_O_73 rfl (show 0 < 1 from by omega) rfl ?_
  refine th_iload_n C dc_O_isStopped_4 rfl rfl ?_
  refine tq_zaldN C dc_O_isStopped_5 rfl (fun _ => rfl) (show 0 < 1 from by omega) rfl htn (show tn < 5 from by omega) (fun x1 e1 => ?_)
  have g1 : x1.toInt = (I 42 0 tn).toInt := by rw [e1]
  refine tq_if_ne (tgt := 11) C dc_O_isStopped_6 (by decide) rfl (fun c2 => ?_) (fun c2 => ?_)
  · refine th_aload_n C dc_O_isStopped_11 rfl rfl ?_
    refine tq_getR C dc_O_isStopped_12 cl_20 fd_O_73 rfl (show 0 < 1 from by omega) rfl ?_
    refine th_iload_n C dc_O_isStopped_15 rfl rfl ?_
    refine th_iconst (v := 0) C dc_O_isStopped_16 th_c_0 ?_
    refine tq_zastN C dc_O_isStopped_17 rfl (fun _ => rfl) (show 0 < 1 from by omega) rfl htn (show tn < 5 from by omega) rfl ?_
    refine th_gen (P := fun J => th_OI K sl Z J ∧ J = th_u I 42 0 tn ((0 : Int32))) ⟨ro_put hI rfl trivial, rfl⟩ (fun I3 hI3 => ?_)
    obtain ⟨hI3, u3⟩ := hI3
    have e3 : (0 : Int32) = I3 42 0 tn := by rw [u3, th_u_eq]
    have g3 : 0 = (I3 42 0 tn).toInt := by rw [← e3]; exact th_l_0.symm
    refine th_aload_n C dc_O_isStopped_18 rfl rfl ?_
    refine th_iload_n C dc_O_isStopped_19 rfl rfl ?_
    refine th_bipush (v := 7) C dc_O_isStopped_20 th_b_7 ?_
    refine tq_callVv C (o_O_error l hl I3 t ((7 : Int32)) tn hI3 htn (by have := th_l_7; omega) (by rw [u3, th_u_tag (by decide)]; exact hs)) ok_O_160 cl_20 (show 0 < 1 from by omega) rfl (Nat.le_of_ble_eq_true rfl) dc_O_isStopped_22 rfl (fun I4 p4 => ?_)
    obtain ⟨hI4, p4⟩ := p4
    try simp only [th_l_7] at p4
    refine th_iconst (v := 1) C dc_O_isStopped_25 th_c_1 ?_
    exact th_zret C hQ dc_O_isStopped_26 (rfl) (by decide) (by decide) ⟨_, _, rfl, rfl, hI4, Or.inr th_l_1⟩
  · refine th_iconst (v := 0) C dc_O_isStopped_9 th_c_0 ?_
    exact th_zret C hQ dc_O_isStopped_10 (rfl) (by decide) (by decide) ⟨_, _, rfl, rfl, hI, Or.inl ⟨th_l_0, rfl⟩⟩

