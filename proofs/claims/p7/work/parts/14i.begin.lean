set_option maxRecDepth 100000 in
set_option maxHeartbeats 4000000 in
theorem o_O_begin (l : Launch) (hl : l.stackTraces = false) {K sl : Int} {Z : th_I} (I : th_I) (t : Int32) (tn : Nat) (hI : th_OI K sl Z I) (htn : (tn : Int) = t.toInt) (ht : 0 ≤ t.toInt ∧ t.toInt ≤ 4) : th_F l yn_O_begin cb_O_begin 2 (some .boolean) { frames := 1, cells := 0, slots := 0, locals := 21 } [.inr (some (20, 0)), .inl t] (th_m I) (th_ri (fun x J => th_OI K sl Z J ∧ (x.toInt = 0 ∧ J = I ∨ x.toInt = 1))) := by
  refine th_of hl (by decide +kernel) (Nat.le_of_ble_eq_true rfl) (fun z C hQ hN => ?_)
  show th_G l z 2 0 [(0, .inr (some (20, 0))), (1, .inl t)] [] (th_m I) 0 0
  have hb := hI.2.2.1
  refine th_aload_n C dc_O_begin_0 rfl rfl ?_
  refine th_iload_n C dc_O_begin_1 rfl rfl ?_
  refine tq_callVp C (o_O_alive l hl I t tn hI htn (by omega)) ok_O_128 cl_20 (show 0 < 1 from by omega) rfl (Nat.le_of_ble_eq_true rfl) dc_O_begin_2 rfl (fun x1 p1 => ?_)
  refine tq_if_eq (tgt := 10) C dc_O_begin_5 (by decide) rfl (fun c2 => ?_) (fun c2 => ?_)
  · refine th_aload_n C dc_O_begin_10 rfl rfl ?_
    refine tq_getR C dc_O_begin_11 cl_20 fd_O_43 rfl (show 0 < 1 from by omega) rfl ?_
    refine th_iload_n C dc_O_begin_14 rfl rfl ?_
    refine th_iconst (v := 1) C dc_O_begin_15 th_c_1 ?_
    refine tq_iastN C dc_O_begin_16 rfl (fun _ => rfl) (show 0 < 1 from by omega) rfl htn (show tn < 5 from by omega) ?_
    refine th_gen (P := fun J => th_OI K sl Z J ∧ J = th_u I 32 0 tn ((1 : Int32))) ⟨ro_state hI (ro_no_of hI.2.2.2.2.1 (by omega)) (ro_no_of hI.2.2.2.2.2.1 (by omega)) (ro_no_of hI.2.2.2.2.2.2.1 (by omega)) (by have := th_l_1; omega), rfl⟩ (fun I3 hI3 => ?_)
    obtain ⟨hI3, u3⟩ := hI3
    have e3 : (1 : Int32) = I3 32 0 tn := by rw [u3, th_u_eq]
    have g3 : 1 = (I3 32 0 tn).toInt := by rw [← e3]; exact th_l_1.symm
    refine th_aload_n C dc_O_begin_17 rfl rfl ?_
    refine tq_getR C dc_O_begin_18 cl_20 fd_O_46 rfl (show 0 < 1 from by omega) rfl ?_
    refine th_iload_n C dc_O_begin_21 rfl rfl ?_
    refine th_iconst (v := 0) C dc_O_begin_22 th_c_0 ?_
    refine tq_iastN C dc_O_begin_23 rfl (fun _ => rfl) (show 0 < 1 from by omega) rfl htn (show tn < 5 from by omega) ?_
    refine th_gen (P := fun J => th_OI K sl Z J ∧ J = th_u I3 33 0 tn ((0 : Int32))) ⟨ro_put hI3 rfl (show 0 ≤ (0 : Int32).toInt ∧ (0 : Int32).toInt ≤ 24 from by rw [th_l_0]; omega), rfl⟩ (fun I4 hI4 => ?_)
    obtain ⟨hI4, u4⟩ := hI4
    have e5 : (1 : Int32) = I4 32 0 tn := by rw [u4, th_u_tag (by decide)]; exact e3
    have g5 : (1 : Int32).toInt = (I4 32 0 tn).toInt := by rw [← e5]
    have e4 : (0 : Int32) = I4 33 0 tn := by rw [u4, th_u_eq]
    have g4 : 0 = (I4 33 0 tn).toInt := by rw [← e4]; exact th_l_0.symm
    refine th_aload_n C dc_O_begin_24 rfl rfl ?_
    refine tq_getR C dc_O_begin_25 cl_20 fd_O_31 rfl (show 0 < 1 from by omega) rfl ?_
    refine th_iload_n C dc_O_begin_28 rfl rfl ?_
    refine th_iconst (v := 0) C dc_O_begin_29 th_c_0 ?_
    refine tq_iastN C dc_O_begin_30 rfl (fun _ => rfl) (show 0 < 1 from by omega) rfl htn (show tn < 5 from by omega) ?_
    refine th_gen (P := fun J => th_OI K sl Z J ∧ J = th_u I4 28 0 tn ((0 : Int32))) ⟨ro_put hI4 rfl (show 0 ≤ (0 : Int32).toInt ∧ (0 : Int32).toInt ≤ 12 from by rw [th_l_0]; omega), rfl⟩ (fun I6 hI6 => ?_)
    obtain ⟨hI6, u6⟩ := hI6
    have e7 : (1 : Int32) = I6 32 0 tn := by rw [u6, th_u_tag (by decide)]; exact e5
    have g7 : (1 : Int32).toInt = (I6 32 0 tn).toInt := by rw [← e7]
    have e8 : (0 : Int32) = I6 33 0 tn := by rw [u6, th_u_tag (by decide)]; exact e4
    have g8 : (0 : Int32).toInt = (I6 33 0 tn).toInt := by rw [← e8]
    have e6 : (0 : Int32) = I6 28 0 tn := by rw [u6, th_u_eq]
    have g6 : 0 = (I6 28 0 tn).toInt := by rw [← e6]; exact th_l_0.symm
    refine th_aload_n C dc_O_begin_31 rfl rfl ?_
    refine tq_getR C dc_O_begin_32 cl_20 fd_O_40 rfl (show 0 < 1 from by omega) rfl ?_
    refine th_iload_n C dc_O_begin_35 rfl rfl ?_
    refine th_iconst (v := 0) C dc_O_begin_36 th_c_0 ?_
    refine tq_iastN C dc_O_begin_37 rfl (fun _ => rfl) (show 0 < 1 from by omega) rfl htn (show tn < 5 from by omega) ?_
    refine th_gen (P := fun J => th_OI K sl Z J ∧ J = th_u I6 31 0 tn ((0 : Int32))) ⟨ro_put hI6 rfl (show 0 ≤ (0 : Int32).toInt ∧ (0 : Int32).toInt ≤ 4 from by rw [th_l_0]; omega), rfl⟩ (fun I9 hI9 => ?_)
    obtain ⟨hI9, u9⟩ := hI9
    have e10 : (1 : Int32) = I9 32 0 tn := by rw [u9, th_u_tag (by decide)]; exact e7
    have g10 : (1 : Int32).toInt = (I9 32 0 tn).toInt := by rw [← e10]
    have e11 : (0 : Int32) = I9 33 0 tn := by rw [u9, th_u_tag (by decide)]; exact e8
    have g11 : (0 : Int32).toInt = (I9 33 0 tn).toInt := by rw [← e11]
    have e12 : (0 : Int32) = I9 28 0 tn := by rw [u9, th_u_tag (by decide)]; exact e6
    have g12 : (0 : Int32).toInt = (I9 28 0 tn).toInt := by rw [← e12]
    have e9 : (0 : Int32) = I9 31 0 tn := by rw [u9, th_u_eq]
    have g9 : 0 = (I9 31 0 tn).toInt := by rw [← e9]; exact th_l_0.symm
    refine th_aload_n C dc_O_begin_38 rfl rfl ?_
    refine tq_getR C dc_O_begin_39 cl_20 fd_O_52 rfl (show 0 < 1 from by omega) rfl ?_
    refine th_iload_n C dc_O_begin_42 rfl rfl ?_
    refine th_bipush (v := 24) C dc_O_begin_43 th_b_24 ?_
    refine tq_iastN C dc_O_begin_45 rfl (fun _ => rfl) (show 0 < 1 from by omega) rfl htn (show tn < 5 from by omega) ?_
    refine th_gen (P := fun J => th_OI K sl Z J ∧ J = th_u I9 35 0 tn ((24 : Int32))) ⟨ro_put hI9 rfl (show 0 ≤ (24 : Int32).toInt ∧ (24 : Int32).toInt ≤ 24 from by rw [th_l_24]; omega), rfl⟩ (fun I13 hI13 => ?_)
    obtain ⟨hI13, u13⟩ := hI13
    have e14 : (1 : Int32) = I13 32 0 tn := by rw [u13, th_u_tag (by decide)]; exact e10
    have g14 : (1 : Int32).toInt = (I13 32 0 tn).toInt := by rw [← e14]
    have e15 : (0 : Int32) = I13 33 0 tn := by rw [u13, th_u_tag (by decide)]; exact e11
    have g15 : (0 : Int32).toInt = (I13 33 0 tn).toInt := by rw [← e15]
    have e16 : (0 : Int32) = I13 28 0 tn := by rw [u13, th_u_tag (by decide)]; exact e12
    have g16 : (0 : Int32).toInt = (I13 28 0 tn).toInt := by rw [← e16]
    have e17 : (0 : Int32) = I13 31 0 tn := by rw [u13, th_u_tag (by decide)]; exact e9
    have g17 : (0 : Int32).toInt = (I13 31 0 tn).toInt := by rw [← e17]
    have e13 : (24 : Int32) = I13 35 0 tn := by rw [u13, th_u_eq]
    have g13 : 24 = (I13 35 0 tn).toInt := by rw [← e13]; exact th_l_24.symm
    refine th_aload_n C dc_O_begin_46 rfl rfl ?_
    refine tq_getR C dc_O_begin_47 cl_20 fd_O_73 rfl (show 0 < 1 from by omega) rfl ?_
    refine th_iload_n C dc_O_begin_50 rfl rfl ?_
    refine th_iconst (v := 0) C dc_O_begin_51 th_c_0 ?_
    refine tq_zastN C dc_O_begin_52 rfl (fun _ => rfl) (show 0 < 1 from by omega) rfl htn (show tn < 5 from by omega) rfl ?_
    refine th_gen (P := fun J => th_OI K sl Z J ∧ J = th_u I13 42 0 tn ((0 : Int32))) ⟨ro_put hI13 rfl trivial, rfl⟩ (fun I18 hI18 => ?_)
    obtain ⟨hI18, u18⟩ := hI18
    have e19 : (1 : Int32) = I18 32 0 tn := by rw [u18, th_u_tag (by decide)]; exact e14
    have g19 : (1 : Int32).toInt = (I18 32 0 tn).toInt := by rw [← e19]
    have e20 : (0 : Int32) = I18 33 0 tn := by rw [u18, th_u_tag (by decide)]; exact e15
    have g20 : (0 : Int32).toInt = (I18 33 0 tn).toInt := by rw [← e20]
    have e21 : (0 : Int32) = I18 28 0 tn := by rw [u18, th_u_tag (by decide)]; exact e16
    have g21 : (0 : Int32).toInt = (I18 28 0 tn).toInt := by rw [← e21]
    have e22 : (0 : Int32) = I18 31 0 tn := by rw [u18, th_u_tag (by decide)]; exact e17
    have g22 : (0 : Int32).toInt = (I18 31 0 tn).toInt := by rw [← e22]
    have e23 : (24 : Int32) = I18 35 0 tn := by rw [u18, th_u_tag (by decide)]; exact e13
    have g23 : (24 : Int32).toInt = (I18 35 0 tn).toInt := by rw [← e23]
    have e18 : (0 : Int32) = I18 42 0 tn := by rw [u18, th_u_eq]
    have g18 : 0 = (I18 42 0 tn).toInt := by rw [← e18]; exact th_l_0.symm
    refine th_aload_n C dc_O_begin_53 rfl rfl ?_
    refine tq_getR C dc_O_begin_54 cl_20 fd_O_77 rfl (show 0 < 1 from by omega) rfl ?_
    refine th_iload_n C dc_O_begin_57 rfl rfl ?_
    refine th_iconst (v := 0) C dc_O_begin_58 th_c_0 ?_
    refine tq_zastN C dc_O_begin_59 rfl (fun _ => rfl) (show 0 < 1 from by omega) rfl htn (show tn < 5 from by omega) rfl ?_
    refine th_gen (P := fun J => th_OI K sl Z J ∧ J = th_u I18 43 0 tn ((0 : Int32))) ⟨ro_put hI18 rfl trivial, rfl⟩ (fun I24 hI24 => ?_)
    obtain ⟨hI24, u24⟩ := hI24
    have e25 : (1 : Int32) = I24 32 0 tn := by rw [u24, th_u_tag (by decide)]; exact e19
    have g25 : (1 : Int32).toInt = (I24 32 0 tn).toInt := by rw [← e25]
    have e26 : (0 : Int32) = I24 33 0 tn := by rw [u24, th_u_tag (by decide)]; exact e20
    have g26 : (0 : Int32).toInt = (I24 33 0 tn).toInt := by rw [← e26]
    have e27 : (0 : Int32) = I24 28 0 tn := by rw [u24, th_u_tag (by decide)]; exact e21
    have g27 : (0 : Int32).toInt = (I24 28 0 tn).toInt := by rw [← e27]
    have e28 : (0 : Int32) = I24 31 0 tn := by rw [u24, th_u_tag (by decide)]; exact e22
    have g28 : (0 : Int32).toInt = (I24 31 0 tn).toInt := by rw [← e28]
    have e29 : (24 : Int32) = I24 35 0 tn := by rw [u24, th_u_tag (by decide)]; exact e23
    have g29 : (24 : Int32).toInt = (I24 35 0 tn).toInt := by rw [← e29]
    have e30 : (0 : Int32) = I24 42 0 tn := by rw [u24, th_u_tag (by decide)]; exact e18
    have g30 : (0 : Int32).toInt = (I24 42 0 tn).toInt := by rw [← e30]
    have e24 : (0 : Int32) = I24 43 0 tn := by rw [u24, th_u_eq]
    have g24 : 0 = (I24 43 0 tn).toInt := by rw [← e24]; exact th_l_0.symm
    refine th_aload_n C dc_O_begin_60 rfl rfl ?_
    refine tq_getR C dc_O_begin_61 cl_20 fd_O_55 rfl (show 0 < 1 from by omega) rfl ?_
    refine th_iload_n C dc_O_begin_64 rfl rfl ?_
    refine th_iconst (v := 0) C dc_O_begin_65 th_c_0 ?_
    refine tq_iastN C dc_O_begin_66 rfl (fun _ => rfl) (show 0 < 1 from by omega) rfl htn (show tn < 5 from by omega) ?_
    refine th_gen (P := fun J => th_OI K sl Z J ∧ J = th_u I24 36 0 tn ((0 : Int32))) ⟨ro_put hI24 rfl trivial, rfl⟩ (fun I31 hI31 => ?_)
    obtain ⟨hI31, u31⟩ := hI31
    have e32 : (1 : Int32) = I31 32 0 tn := by rw [u31, th_u_tag (by decide)]; exact e25
    have g32 : (1 : Int32).toInt = (I31 32 0 tn).toInt := by rw [← e32]
    have e33 : (0 : Int32) = I31 33 0 tn := by rw [u31, th_u_tag (by decide)]; exact e26
    have g33 : (0 : Int32).toInt = (I31 33 0 tn).toInt := by rw [← e33]
    have e34 : (0 : Int32) = I31 28 0 tn := by rw [u31, th_u_tag (by decide)]; exact e27
    have g34 : (0 : Int32).toInt = (I31 28 0 tn).toInt := by rw [← e34]
    have e35 : (0 : Int32) = I31 31 0 tn := by rw [u31, th_u_tag (by decide)]; exact e28
    have g35 : (0 : Int32).toInt = (I31 31 0 tn).toInt := by rw [← e35]
    have e36 : (24 : Int32) = I31 35 0 tn := by rw [u31, th_u_tag (by decide)]; exact e29
    have g36 : (24 : Int32).toInt = (I31 35 0 tn).toInt := by rw [← e36]
    have e37 : (0 : Int32) = I31 42 0 tn := by rw [u31, th_u_tag (by decide)]; exact e30
    have g37 : (0 : Int32).toInt = (I31 42 0 tn).toInt := by rw [← e37]
    have e38 : (0 : Int32) = I31 43 0 tn := by rw [u31, th_u_tag (by decide)]; exact e24
    have g38 : (0 : Int32).toInt = (I31 43 0 tn).toInt := by rw [← e38]
    have e31 : (0 : Int32) = I31 36 0 tn := by rw [u31, th_u_eq]
    have g31 : 0 = (I31 36 0 tn).toInt := by rw [← e31]; exact th_l_0.symm
    refine th_aload_n C dc_O_begin_67 rfl rfl ?_
    refine tq_getR C dc_O_begin_68 cl_20 fd_O_58 rfl (show 0 < 1 from by omega) rfl ?_
    refine th_iload_n C dc_O_begin_71 rfl rfl ?_
    refine th_dup2 C dc_O_begin_72 ?_
    refine tq_ialdN C dc_O_begin_73 rfl (fun _ => rfl) (show 0 < 1 from by omega) rfl htn (show tn < 5 from by omega) (fun x39 e39 => ?_)
    have g39 : x39.toInt = (I31 37 0 tn).toInt := by rw [e39]
    refine th_iconst (v := 1) C dc_O_begin_74 th_c_1 ?_
    refine tq_iadd C dc_O_begin_75 rfl th_l_1 (fun x40 e40 a40 => ?_)
    refine tq_iastN C dc_O_begin_76 rfl (fun _ => rfl) (show 0 < 1 from by omega) rfl htn (show tn < 5 from by omega) ?_
    refine th_gen (P := fun J => th_OI K sl Z J ∧ J = th_u I31 37 0 tn x40) ⟨ro_put hI31 rfl trivial, rfl⟩ (fun I41 hI41 => ?_)
    obtain ⟨hI41, u41⟩ := hI41
    have e42 : (1 : Int32) = I41 32 0 tn := by rw [u41, th_u_tag (by decide)]; exact e32
    have g42 : (1 : Int32).toInt = (I41 32 0 tn).toInt := by rw [← e42]
    have e43 : (0 : Int32) = I41 33 0 tn := by rw [u41, th_u_tag (by decide)]; exact e33
    have g43 : (0 : Int32).toInt = (I41 33 0 tn).toInt := by rw [← e43]
    have e44 : (0 : Int32) = I41 28 0 tn := by rw [u41, th_u_tag (by decide)]; exact e34
    have g44 : (0 : Int32).toInt = (I41 28 0 tn).toInt := by rw [← e44]
    have e45 : (0 : Int32) = I41 31 0 tn := by rw [u41, th_u_tag (by decide)]; exact e35
    have g45 : (0 : Int32).toInt = (I41 31 0 tn).toInt := by rw [← e45]
    have e46 : (24 : Int32) = I41 35 0 tn := by rw [u41, th_u_tag (by decide)]; exact e36
    have g46 : (24 : Int32).toInt = (I41 35 0 tn).toInt := by rw [← e46]
    have e47 : (0 : Int32) = I41 42 0 tn := by rw [u41, th_u_tag (by decide)]; exact e37
    have g47 : (0 : Int32).toInt = (I41 42 0 tn).toInt := by rw [← e47]
    have e48 : (0 : Int32) = I41 43 0 tn := by rw [u41, th_u_tag (by decide)]; exact e38
    have g48 : (0 : Int32).toInt = (I41 43 0 tn).toInt := by rw [← e48]
    have e49 : (0 : Int32) = I41 36 0 tn := by rw [u41, th_u_tag (by decide)]; exact e31
    have g49 : (0 : Int32).toInt = (I41 36 0 tn).toInt := by rw [← e49]
    have e41 : x40 = I41 37 0 tn := by rw [u41, th_u_eq]
    have g41 : x40.toInt = (I41 37 0 tn).toInt := by rw [← e41]
    refine th_iconst (v := 1) C dc_O_begin_77 th_c_1 ?_
    exact th_zret C hQ dc_O_begin_78 (rfl) (by decide) (by decide) ⟨_, _, rfl, rfl, hI41, Or.inr th_l_1⟩
  · refine th_iconst (v := 0) C dc_O_begin_8 th_c_0 ?_
    exact th_zret C hQ dc_O_begin_9 (rfl) (by decide) (by decide) ⟨_, _, rfl, rfl, hI, Or.inl ⟨th_l_0, rfl⟩⟩

