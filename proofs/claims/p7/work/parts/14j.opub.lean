set_option maxRecDepth 100000 in
set_option maxHeartbeats 4000000 in
theorem o_O_clear (l : Launch) (hl : l.stackTraces = false) {K sl : Int} {Z : th_I} (I : th_I) (t : Int32) (hI : th_OI K sl Z I) : th_F l yn_O_clear cb_O_clear 3 (some .int) { frames := 1, cells := 0, slots := 0, locals := 22 } [.inr (some (20, 0)), .inl t] (th_m I) (th_ri (fun x J => th_OI K sl Z J ∧ (True))) := by
  refine th_of hl (by decide +kernel) (Nat.le_of_ble_eq_true rfl) (fun z C hQ hN => ?_)
  show th_G l z 3 0 [(0, .inr (some (20, 0))), (1, .inl t)] [] (th_m I) 0 0
  have hb := hI.2.2.1
  refine th_aload_n C dc_O_clear_0 rfl rfl ?_
  refine th_iconst (v := 0) C dc_O_clear_1 th_c_0 ?_
  refine tq_putI C dc_O_clear_2 cl_20 fd_O_114 rfl (show 0 < 1 from by omega) rfl rfl ?_
  refine th_gen (P := fun J => th_OI K sl Z J ∧ J = th_u I 20 0 34 ((0 : Int32))) ⟨ro_put hI rfl trivial, rfl⟩ (fun I1 hI1 => ?_)
  obtain ⟨hI1, u1⟩ := hI1
  have e1 : (0 : Int32) = I1 20 0 34 := by rw [u1, th_u_eq]
  have g1 : 0 = (I1 20 0 34).toInt := by rw [← e1]; exact th_l_0.symm
  refine th_iload_n C dc_O_clear_5 rfl rfl ?_
  refine th_iconst (v := 0) C dc_O_clear_6 th_c_0 ?_
  refine th_iconst (v := 4) C dc_O_clear_7 th_c_4 ?_
  refine tq_callSp C (o_O_is l hl I1 t ((0 : Int32)) ((4 : Int32))) ok_O_117 rfl (Nat.le_of_ble_eq_true rfl) dc_O_clear_8 rfl (fun x2 p2 => ?_)
  try simp only [th_l_0, th_l_4] at p2
  refine tq_if_ne (tgt := 20) C dc_O_clear_11 (by decide) rfl (fun c3 => ?_) (fun c3 => ?_)
  · refine th_aload_n C dc_O_clear_20 rfl rfl ?_
    refine th_iload_n C dc_O_clear_21 rfl rfl ?_
    obtain ⟨n4, m4⟩ := th_nat (a := t.toInt) (by omega)
    refine tq_callVp C (o_O_alive l hl I1 t n4 hI1 m4 (by omega)) ok_O_128 cl_20 (show 0 < 1 from by omega) rfl (Nat.le_of_ble_eq_true rfl) dc_O_clear_22 rfl (fun x5 p5 => ?_)
    refine tq_if_eq (tgt := 34) C dc_O_clear_25 (by decide) rfl (fun c6 => ?_) (fun c6 => ?_)
    · refine th_aload_n C dc_O_clear_34 rfl rfl ?_
      refine tq_getR C dc_O_clear_35 cl_20 fd_O_19 rfl (show 0 < 1 from by omega) rfl ?_
      refine th_iload_n C dc_O_clear_38 rfl rfl ?_
      refine tq_ialdN C dc_O_clear_39 rfl (fun _ => rfl) (show 0 < 1 from by omega) rfl m4 (show n4 < 5 from by omega) (fun x7 e7 => ?_)
      have g7 : x7.toInt = (I1 24 0 n4).toInt := by rw [e7]
      have r7 : 0 ≤ x7.toInt ∧ x7.toInt ≤ 24 := by rw [e7]; exact hI1.1 24 0 n4
      refine th_istore_n (lv' := [(0, .inr (some (20, 0))), (1, .inl t), (2, .inl x7)]) C dc_O_clear_40 rfl (by decide) rfl ?_
      refine th_aload_n C dc_O_clear_41 rfl rfl ?_
      refine tq_getR C dc_O_clear_42 cl_20 fd_O_19 rfl (show 0 < 1 from by omega) rfl ?_
      refine th_iload_n C dc_O_clear_45 rfl rfl ?_
      refine th_iconst (v := 0) C dc_O_clear_46 th_c_0 ?_
      refine tq_iastN C dc_O_clear_47 rfl (fun _ => rfl) (show 0 < 1 from by omega) rfl m4 (show n4 < 5 from by omega) ?_
      refine th_gen (P := fun J => th_OI K sl Z J ∧ J = th_u I1 24 0 n4 ((0 : Int32))) ⟨ro_put hI1 rfl (show 0 ≤ (0 : Int32).toInt ∧ (0 : Int32).toInt ≤ 24 from by rw [th_l_0]; omega), rfl⟩ (fun I8 hI8 => ?_)
      obtain ⟨hI8, u8⟩ := hI8
      have e9 : (0 : Int32) = I8 20 0 34 := by rw [u8, th_u_tag (by decide)]; exact e1
      have g9 : (0 : Int32).toInt = (I8 20 0 34).toInt := by rw [← e9]
      have e8 : (0 : Int32) = I8 24 0 n4 := by rw [u8, th_u_eq]
      have g8 : 0 = (I8 24 0 n4).toInt := by rw [← e8]; exact th_l_0.symm
      refine th_iload_n C dc_O_clear_48 rfl rfl ?_
      exact th_iret C hQ dc_O_clear_49 (by decide) (by decide) ⟨_, _, rfl, rfl, hI8, trivial⟩
    · refine th_aload_n C dc_O_clear_28 rfl rfl ?_
      refine th_iconst (v := 2) C dc_O_clear_29 th_c_2 ?_
      refine tq_callVi C (o_O_refuse l hl I1 ((2 : Int32)) hI1) ok_O_124 cl_20 (show 0 < 1 from by omega) rfl (Nat.le_of_ble_eq_true rfl) dc_O_clear_30 rfl (fun x10 I10 p10 => ?_)
      obtain ⟨hI10, p10⟩ := p10
      try simp only [th_l_2] at p10
      exact th_iret C hQ dc_O_clear_33 (by decide) (by decide) ⟨_, _, rfl, rfl, hI10, trivial⟩
  · refine th_aload_n C dc_O_clear_14 rfl rfl ?_
    refine th_iconst (v := 1) C dc_O_clear_15 th_c_1 ?_
    refine tq_callVi C (o_O_refuse l hl I1 ((1 : Int32)) hI1) ok_O_124 cl_20 (show 0 < 1 from by omega) rfl (Nat.le_of_ble_eq_true rfl) dc_O_clear_16 rfl (fun x11 I11 p11 => ?_)
    obtain ⟨hI11, p11⟩ := p11
    try simp only [th_l_1] at p11
    exact th_iret C hQ dc_O_clear_19 (by decide) (by decide) ⟨_, _, rfl, rfl, hI11, trivial⟩

set_option maxRecDepth 100000 in
set_option maxHeartbeats 4000000 in
theorem o_O_start (l : Launch) (hl : l.stackTraces = false) {K sl : Int} {Z : th_I} (I : th_I) (t : Int32) (hI : th_OI K sl Z I) : th_F l yn_O_start cb_O_start 2 (some .int) { frames := 2, cells := 0, slots := 0, locals := 42 } [.inr (some (20, 0)), .inl t] (th_m I) (th_ri (fun x J => th_OI K sl Z J ∧ (True))) := by
  refine th_of hl (by decide +kernel) (Nat.le_of_ble_eq_true rfl) (fun z C hQ hN => ?_)
  show th_G l z 2 0 [(0, .inr (some (20, 0))), (1, .inl t)] [] (th_m I) 0 0
  have hb := hI.2.2.1
  refine th_aload_n C dc_O_start_0 rfl rfl ?_
  refine th_iconst (v := 0) C dc_O_start_1 th_c_0 ?_
  refine tq_putI C dc_O_start_2 cl_20 fd_O_114 rfl (show 0 < 1 from by omega) rfl rfl ?_
  refine th_gen (P := fun J => th_OI K sl Z J ∧ J = th_u I 20 0 34 ((0 : Int32))) ⟨ro_put hI rfl trivial, rfl⟩ (fun I1 hI1 => ?_)
  obtain ⟨hI1, u1⟩ := hI1
  have e1 : (0 : Int32) = I1 20 0 34 := by rw [u1, th_u_eq]
  have g1 : 0 = (I1 20 0 34).toInt := by rw [← e1]; exact th_l_0.symm
  refine th_iload_n C dc_O_start_5 rfl rfl ?_
  refine th_iconst (v := 0) C dc_O_start_6 th_c_0 ?_
  refine th_iconst (v := 4) C dc_O_start_7 th_c_4 ?_
  refine tq_callSp C (o_O_is l hl I1 t ((0 : Int32)) ((4 : Int32))) ok_O_117 rfl (Nat.le_of_ble_eq_true rfl) dc_O_start_8 rfl (fun x2 p2 => ?_)
  try simp only [th_l_0, th_l_4] at p2
  refine tq_if_ne (tgt := 20) C dc_O_start_11 (by decide) rfl (fun c3 => ?_) (fun c3 => ?_)
  · refine th_aload_n C dc_O_start_20 rfl rfl ?_
    refine th_iload_n C dc_O_start_21 rfl rfl ?_
    obtain ⟨n4, m4⟩ := th_nat (a := t.toInt) (by omega)
    refine tq_callVi C (o_O_begin l hl I1 t n4 hI1 m4 (by omega)) ok_O_179 cl_20 (show 0 < 1 from by omega) rfl (Nat.le_of_ble_eq_true rfl) dc_O_start_22 rfl (fun x5 I5 p5 => ?_)
    obtain ⟨hI5, p5⟩ := p5
    refine tq_if_eq (tgt := 32) C dc_O_start_25 (by decide) rfl (fun c6 => ?_) (fun c6 => ?_)
    · refine th_iconst (v := 0) C dc_O_start_32 th_c_0 ?_
      exact th_iret C hQ dc_O_start_33 (by decide) (by decide) ⟨_, _, rfl, rfl, hI5, trivial⟩
    · refine th_iconst (v := 1) C dc_O_start_28 th_c_1 ?_
      refine th_goto (tgt := 33) C dc_O_start_29 (by decide) ?_
      exact th_iret C hQ dc_O_start_33 (by decide) (by decide) ⟨_, _, rfl, rfl, hI5, trivial⟩
  · refine th_aload_n C dc_O_start_14 rfl rfl ?_
    refine th_iconst (v := 1) C dc_O_start_15 th_c_1 ?_
    refine tq_callVi C (o_O_refuse l hl I1 ((1 : Int32)) hI1) ok_O_124 cl_20 (show 0 < 1 from by omega) rfl (Nat.le_of_ble_eq_true rfl) dc_O_start_16 rfl (fun x7 I7 p7 => ?_)
    obtain ⟨hI7, p7⟩ := p7
    try simp only [th_l_1] at p7
    exact th_iret C hQ dc_O_start_19 (by decide) (by decide) ⟨_, _, rfl, rfl, hI7, trivial⟩

set_option maxRecDepth 100000 in
set_option maxHeartbeats 4000000 in
theorem o_O_global (l : Launch) (hl : l.stackTraces = false) {K sl : Int} {Z : th_I} (I : th_I) (s : Int32) (v : Int32) (hI : th_OI K sl Z I) : th_F l yn_O_global cb_O_global 4 (some .int) { frames := 1, cells := 0, slots := 0, locals := 22 } [.inr (some (20, 0)), .inl s, .inl v] (th_m I) (th_ri (fun x J => th_OI K sl Z J ∧ (True))) := by
  refine th_of hl (by decide +kernel) (Nat.le_of_ble_eq_true rfl) (fun z C hQ hN => ?_)
  show th_G l z 4 0 [(0, .inr (some (20, 0))), (1, .inl s), (2, .inl v)] [] (th_m I) 0 0
  have hb := hI.2.2.1
  refine th_aload_n C dc_O_global_0 rfl rfl ?_
  refine th_iconst (v := 0) C dc_O_global_1 th_c_0 ?_
  refine tq_putI C dc_O_global_2 cl_20 fd_O_114 rfl (show 0 < 1 from by omega) rfl rfl ?_
  refine th_gen (P := fun J => th_OI K sl Z J ∧ J = th_u I 20 0 34 ((0 : Int32))) ⟨ro_put hI rfl trivial, rfl⟩ (fun I1 hI1 => ?_)
  obtain ⟨hI1, u1⟩ := hI1
  have e1 : (0 : Int32) = I1 20 0 34 := by rw [u1, th_u_eq]
  have g1 : 0 = (I1 20 0 34).toInt := by rw [← e1]; exact th_l_0.symm
  refine th_iload_n C dc_O_global_5 rfl rfl ?_
  refine th_iconst (v := 0) C dc_O_global_6 th_c_0 ?_
  refine th_iconst (v := 3) C dc_O_global_7 th_c_3 ?_
  refine tq_callSp C (o_O_is l hl I1 s ((0 : Int32)) ((3 : Int32))) ok_O_117 rfl (Nat.le_of_ble_eq_true rfl) dc_O_global_8 rfl (fun x2 p2 => ?_)
  try simp only [th_l_0, th_l_3] at p2
  refine tq_if_ne (tgt := 20) C dc_O_global_11 (by decide) rfl (fun c3 => ?_) (fun c3 => ?_)
  · refine th_aload_n C dc_O_global_20 rfl rfl ?_
    refine tq_getR C dc_O_global_21 cl_20 fd_O_22 rfl (show 0 < 1 from by omega) rfl ?_
    refine th_iload_n C dc_O_global_24 rfl rfl ?_
    obtain ⟨n5, m5⟩ := th_nat (a := s.toInt) (by omega)
    refine tq_ialdN C dc_O_global_25 rfl (fun _ => rfl) (show 0 < 1 from by omega) rfl m5 (show n5 < 4 from by omega) (fun x4 e4 => ?_)
    have g4 : x4.toInt = (I1 25 0 n5).toInt := by rw [e4]
    refine th_istore_n (lv' := [(0, .inr (some (20, 0))), (1, .inl s), (2, .inl v), (3, .inl x4)]) C dc_O_global_26 rfl (by decide) rfl ?_
    refine th_aload_n C dc_O_global_27 rfl rfl ?_
    refine tq_getR C dc_O_global_28 cl_20 fd_O_22 rfl (show 0 < 1 from by omega) rfl ?_
    refine th_iload_n C dc_O_global_31 rfl rfl ?_
    refine th_iload_n C dc_O_global_32 rfl rfl ?_
    refine tq_iastN C dc_O_global_33 rfl (fun _ => rfl) (show 0 < 1 from by omega) rfl m5 (show n5 < 4 from by omega) ?_
    refine th_gen (P := fun J => th_OI K sl Z J ∧ J = th_u I1 25 0 n5 v) ⟨ro_put hI1 rfl trivial, rfl⟩ (fun I6 hI6 => ?_)
    obtain ⟨hI6, u6⟩ := hI6
    have e7 : (0 : Int32) = I6 20 0 34 := by rw [u6, th_u_tag (by decide)]; exact e1
    have g7 : (0 : Int32).toInt = (I6 20 0 34).toInt := by rw [← e7]
    have e6 : v = I6 25 0 n5 := by rw [u6, th_u_eq]
    have g6 : v.toInt = (I6 25 0 n5).toInt := by rw [← e6]
    refine th_iload_n C dc_O_global_34 rfl rfl ?_
    exact th_iret C hQ dc_O_global_35 (by decide) (by decide) ⟨_, _, rfl, rfl, hI6, trivial⟩
  · refine th_aload_n C dc_O_global_14 rfl rfl ?_
    refine th_iconst (v := 1) C dc_O_global_15 th_c_1 ?_
    refine tq_callVi C (o_O_refuse l hl I1 ((1 : Int32)) hI1) ok_O_124 cl_20 (show 0 < 1 from by omega) rfl (Nat.le_of_ble_eq_true rfl) dc_O_global_16 rfl (fun x8 I8 p8 => ?_)
    obtain ⟨hI8, p8⟩ := p8
    try simp only [th_l_1] at p8
    exact th_iret C hQ dc_O_global_19 (by decide) (by decide) ⟨_, _, rfl, rfl, hI8, trivial⟩

set_option maxRecDepth 100000 in
set_option maxHeartbeats 4000000 in
theorem o_O_special (l : Launch) (hl : l.stackTraces = false) {K sl : Int} {Z : th_I} (I : th_I) (t : Int32) (s : Int32) (hI : th_OI K sl Z I) : th_F l yn_O_special cb_O_special 3 (some .int) { frames := 2, cells := 0, slots := 0, locals := 46 } [.inr (some (20, 0)), .inl t, .inl s] (th_m I) (th_ri (fun x J => th_OI K sl Z J ∧ (True))) := by
  refine th_of hl (by decide +kernel) (Nat.le_of_ble_eq_true rfl) (fun z C hQ hN => ?_)
  show th_G l z 3 0 [(0, .inr (some (20, 0))), (1, .inl t), (2, .inl s)] [] (th_m I) 0 0
  have hb := hI.2.2.1
  refine th_aload_n C dc_O_special_0 rfl rfl ?_
  refine th_iconst (v := 0) C dc_O_special_1 th_c_0 ?_
  refine tq_putI C dc_O_special_2 cl_20 fd_O_114 rfl (show 0 < 1 from by omega) rfl rfl ?_
  refine th_gen (P := fun J => th_OI K sl Z J ∧ J = th_u I 20 0 34 ((0 : Int32))) ⟨ro_put hI rfl trivial, rfl⟩ (fun I1 hI1 => ?_)
  obtain ⟨hI1, u1⟩ := hI1
  have e1 : (0 : Int32) = I1 20 0 34 := by rw [u1, th_u_eq]
  have g1 : 0 = (I1 20 0 34).toInt := by rw [← e1]; exact th_l_0.symm
  refine th_iload_n C dc_O_special_5 rfl rfl ?_
  refine th_iconst (v := 0) C dc_O_special_6 th_c_0 ?_
  refine th_iconst (v := 4) C dc_O_special_7 th_c_4 ?_
  refine tq_callSp C (o_O_is l hl I1 t ((0 : Int32)) ((4 : Int32))) ok_O_117 rfl (Nat.le_of_ble_eq_true rfl) dc_O_special_8 rfl (fun x2 p2 => ?_)
  try simp only [th_l_0, th_l_4] at p2
  refine tq_if_eq (tgt := 32) C dc_O_special_11 (by decide) rfl (fun c3 => ?_) (fun c3 => ?_)
  · refine th_aload_n C dc_O_special_32 rfl rfl ?_
    refine th_iconst (v := 1) C dc_O_special_33 th_c_1 ?_
    refine tq_callVi C (o_O_refuse l hl I1 ((1 : Int32)) hI1) ok_O_124 cl_20 (show 0 < 1 from by omega) rfl (Nat.le_of_ble_eq_true rfl) dc_O_special_34 rfl (fun x4 I4 p4 => ?_)
    obtain ⟨hI4, p4⟩ := p4
    try simp only [th_l_1] at p4
    exact th_iret C hQ dc_O_special_37 (by decide) (by decide) ⟨_, _, rfl, rfl, hI4, trivial⟩
  · refine th_iload_n C dc_O_special_14 rfl rfl ?_
    refine th_iconst (v := 0) C dc_O_special_15 th_c_0 ?_
    refine th_iconst (v := 3) C dc_O_special_16 th_c_3 ?_
    refine tq_callSp C (o_O_is l hl I1 s ((0 : Int32)) ((3 : Int32))) ok_O_117 rfl (Nat.le_of_ble_eq_true rfl) dc_O_special_17 rfl (fun x5 p5 => ?_)
    try simp only [th_l_0, th_l_3] at p5
    refine tq_if_eq (tgt := 32) C dc_O_special_20 (by decide) rfl (fun c6 => ?_) (fun c6 => ?_)
    · refine th_aload_n C dc_O_special_32 rfl rfl ?_
      refine th_iconst (v := 1) C dc_O_special_33 th_c_1 ?_
      refine tq_callVi C (o_O_refuse l hl I1 ((1 : Int32)) hI1) ok_O_124 cl_20 (show 0 < 1 from by omega) rfl (Nat.le_of_ble_eq_true rfl) dc_O_special_34 rfl (fun x7 I7 p7 => ?_)
      obtain ⟨hI7, p7⟩ := p7
      try simp only [th_l_1] at p7
      exact th_iret C hQ dc_O_special_37 (by decide) (by decide) ⟨_, _, rfl, rfl, hI7, trivial⟩
    · refine th_aload_n C dc_O_special_23 rfl rfl ?_
      refine th_iload_n C dc_O_special_24 rfl rfl ?_
      refine th_iload_n C dc_O_special_25 rfl rfl ?_
      refine tq_callVp C (o_O_get l hl I1 t s hI1 (by omega) (by omega)) ok_O_136 cl_20 (show 0 < 1 from by omega) rfl (Nat.le_of_ble_eq_true rfl) dc_O_special_26 rfl (fun x8 p8 => ?_)
      refine th_goto (tgt := 37) C dc_O_special_29 (by decide) ?_
      exact th_iret C hQ dc_O_special_37 (by decide) (by decide) ⟨_, _, rfl, rfl, hI1, trivial⟩

set_option maxRecDepth 100000 in
set_option maxHeartbeats 4000000 in
theorem o_O_look (l : Launch) (hl : l.stackTraces = false) {K sl : Int} {Z : th_I} (I : th_I) (t : Int32) (w : Int32) (hI : th_OI K sl Z I) : th_F l yn_O_look cb_O_look 3 (some .int) { frames := 1, cells := 0, slots := 0, locals := 22 } [.inr (some (20, 0)), .inl t, .inl w] (th_m I) (th_ri (fun x J => th_OI K sl Z J ∧ (True))) := by
  refine th_of hl (by decide +kernel) (Nat.le_of_ble_eq_true rfl) (fun z C hQ hN => ?_)
  show th_G l z 3 0 [(0, .inr (some (20, 0))), (1, .inl t), (2, .inl w)] [] (th_m I) 0 0
  have hb := hI.2.2.1
  refine th_aload_n C dc_O_look_0 rfl rfl ?_
  refine th_iconst (v := 0) C dc_O_look_1 th_c_0 ?_
  refine tq_putI C dc_O_look_2 cl_20 fd_O_114 rfl (show 0 < 1 from by omega) rfl rfl ?_
  refine th_gen (P := fun J => th_OI K sl Z J ∧ J = th_u I 20 0 34 ((0 : Int32))) ⟨ro_put hI rfl trivial, rfl⟩ (fun I1 hI1 => ?_)
  obtain ⟨hI1, u1⟩ := hI1
  have e1 : (0 : Int32) = I1 20 0 34 := by rw [u1, th_u_eq]
  have g1 : 0 = (I1 20 0 34).toInt := by rw [← e1]; exact th_l_0.symm
  refine th_iload_n C dc_O_look_5 rfl rfl ?_
  refine th_iconst (v := 0) C dc_O_look_6 th_c_0 ?_
  refine th_iconst (v := 4) C dc_O_look_7 th_c_4 ?_
  refine tq_callSp C (o_O_is l hl I1 t ((0 : Int32)) ((4 : Int32))) ok_O_117 rfl (Nat.le_of_ble_eq_true rfl) dc_O_look_8 rfl (fun x2 p2 => ?_)
  try simp only [th_l_0, th_l_4] at p2
  refine tq_if_ne (tgt := 20) C dc_O_look_11 (by decide) rfl (fun c3 => ?_) (fun c3 => ?_)
  · refine th_iload_n C dc_O_look_20 rfl rfl ?_
    have w4 : w.toInt = 0 ∨ w.toInt = 1 ∨ w.toInt = 2 ∨ w.toInt = 3 ∨ w.toInt = 4 ∨ w.toInt = 5 ∨ w.toInt = 6 ∨ w.toInt = 7 ∨ w.toInt = 8 ∨ w.toInt = 9 ∨ (w.toInt < 0 ∨ 9 < w.toInt) := by omega
    rcases w4 with w4 | w4 | w4 | w4 | w4 | w4 | w4 | w4 | w4 | w4 | w4
    · refine th_tableIn (tgt := 76) C dc_O_look_21 (by omega) (by omega) (by rw [w4]; rfl) (by decide) ?_
      refine th_aload_n C dc_O_look_76 rfl rfl ?_
      refine tq_getR C dc_O_look_77 cl_20 fd_O_43 rfl (show 0 < 1 from by omega) rfl ?_
      refine th_iload_n C dc_O_look_80 rfl rfl ?_
      obtain ⟨n6, m6⟩ := th_nat (a := t.toInt) (by omega)
      refine tq_ialdN C dc_O_look_81 rfl (fun _ => rfl) (show 0 < 1 from by omega) rfl m6 (show n6 < 5 from by omega) (fun x5 e5 => ?_)
      have g5 : x5.toInt = (I1 32 0 n6).toInt := by rw [e5]
      exact th_iret C hQ dc_O_look_82 (by decide) (by decide) ⟨_, _, rfl, rfl, hI1, trivial⟩
    · refine th_tableIn (tgt := 83) C dc_O_look_21 (by omega) (by omega) (by rw [w4]; rfl) (by decide) ?_
      refine th_aload_n C dc_O_look_83 rfl rfl ?_
      refine tq_getR C dc_O_look_84 cl_20 fd_O_46 rfl (show 0 < 1 from by omega) rfl ?_
      refine th_iload_n C dc_O_look_87 rfl rfl ?_
      obtain ⟨n8, m8⟩ := th_nat (a := t.toInt) (by omega)
      refine tq_ialdN C dc_O_look_88 rfl (fun _ => rfl) (show 0 < 1 from by omega) rfl m8 (show n8 < 5 from by omega) (fun x7 e7 => ?_)
      have g7 : x7.toInt = (I1 33 0 n8).toInt := by rw [e7]
      have r7 : 0 ≤ x7.toInt ∧ x7.toInt ≤ 24 := by rw [e7]; exact hI1.1 33 0 n8
      exact th_iret C hQ dc_O_look_89 (by decide) (by decide) ⟨_, _, rfl, rfl, hI1, trivial⟩
    · refine th_tableIn (tgt := 90) C dc_O_look_21 (by omega) (by omega) (by rw [w4]; rfl) (by decide) ?_
      refine th_aload_n C dc_O_look_90 rfl rfl ?_
      refine tq_getR C dc_O_look_91 cl_20 fd_O_49 rfl (show 0 < 1 from by omega) rfl ?_
      refine th_iload_n C dc_O_look_94 rfl rfl ?_
      obtain ⟨n10, m10⟩ := th_nat (a := t.toInt) (by omega)
      refine tq_ialdN C dc_O_look_95 rfl (fun _ => rfl) (show 0 < 1 from by omega) rfl m10 (show n10 < 5 from by omega) (fun x9 e9 => ?_)
      have g9 : x9.toInt = (I1 34 0 n10).toInt := by rw [e9]
      exact th_iret C hQ dc_O_look_96 (by decide) (by decide) ⟨_, _, rfl, rfl, hI1, trivial⟩
    · refine th_tableIn (tgt := 97) C dc_O_look_21 (by omega) (by omega) (by rw [w4]; rfl) (by decide) ?_
      refine th_aload_n C dc_O_look_97 rfl rfl ?_
      refine tq_getR C dc_O_look_98 cl_20 fd_O_31 rfl (show 0 < 1 from by omega) rfl ?_
      refine th_iload_n C dc_O_look_101 rfl rfl ?_
      obtain ⟨n12, m12⟩ := th_nat (a := t.toInt) (by omega)
      refine tq_ialdN C dc_O_look_102 rfl (fun _ => rfl) (show 0 < 1 from by omega) rfl m12 (show n12 < 5 from by omega) (fun x11 e11 => ?_)
      have g11 : x11.toInt = (I1 28 0 n12).toInt := by rw [e11]
      have r11 : 0 ≤ x11.toInt ∧ x11.toInt ≤ 12 := by rw [e11]; exact hI1.1 28 0 n12
      exact th_iret C hQ dc_O_look_103 (by decide) (by decide) ⟨_, _, rfl, rfl, hI1, trivial⟩
    · refine th_tableIn (tgt := 104) C dc_O_look_21 (by omega) (by omega) (by rw [w4]; rfl) (by decide) ?_
      refine th_aload_n C dc_O_look_104 rfl rfl ?_
      refine tq_getR C dc_O_look_105 cl_20 fd_O_40 rfl (show 0 < 1 from by omega) rfl ?_
      refine th_iload_n C dc_O_look_108 rfl rfl ?_
      obtain ⟨n14, m14⟩ := th_nat (a := t.toInt) (by omega)
      refine tq_ialdN C dc_O_look_109 rfl (fun _ => rfl) (show 0 < 1 from by omega) rfl m14 (show n14 < 5 from by omega) (fun x13 e13 => ?_)
      have g13 : x13.toInt = (I1 31 0 n14).toInt := by rw [e13]
      have r13 : 0 ≤ x13.toInt ∧ x13.toInt ≤ 4 := by rw [e13]; exact hI1.1 31 0 n14
      exact th_iret C hQ dc_O_look_110 (by decide) (by decide) ⟨_, _, rfl, rfl, hI1, trivial⟩
    · refine th_tableIn (tgt := 111) C dc_O_look_21 (by omega) (by omega) (by rw [w4]; rfl) (by decide) ?_
      refine th_aload_n C dc_O_look_111 rfl rfl ?_
      refine tq_getR C dc_O_look_112 cl_20 fd_O_73 rfl (show 0 < 1 from by omega) rfl ?_
      refine th_iload_n C dc_O_look_115 rfl rfl ?_
      obtain ⟨n16, m16⟩ := th_nat (a := t.toInt) (by omega)
      refine tq_zaldN C dc_O_look_116 rfl (fun _ => rfl) (show 0 < 1 from by omega) rfl m16 (show n16 < 5 from by omega) (fun x15 e15 => ?_)
      have g15 : x15.toInt = (I1 42 0 n16).toInt := by rw [e15]
      refine tq_if_eq (tgt := 124) C dc_O_look_117 (by decide) rfl (fun c17 => ?_) (fun c17 => ?_)
      · refine th_iconst (v := 0) C dc_O_look_124 th_c_0 ?_
        exact th_iret C hQ dc_O_look_125 (by decide) (by decide) ⟨_, _, rfl, rfl, hI1, trivial⟩
      · refine th_iconst (v := 1) C dc_O_look_120 th_c_1 ?_
        refine th_goto (tgt := 125) C dc_O_look_121 (by decide) ?_
        exact th_iret C hQ dc_O_look_125 (by decide) (by decide) ⟨_, _, rfl, rfl, hI1, trivial⟩
    · refine th_tableIn (tgt := 126) C dc_O_look_21 (by omega) (by omega) (by rw [w4]; rfl) (by decide) ?_
      refine th_aload_n C dc_O_look_126 rfl rfl ?_
      refine tq_getR C dc_O_look_127 cl_20 fd_O_52 rfl (show 0 < 1 from by omega) rfl ?_
      refine th_iload_n C dc_O_look_130 rfl rfl ?_
      obtain ⟨n19, m19⟩ := th_nat (a := t.toInt) (by omega)
      refine tq_ialdN C dc_O_look_131 rfl (fun _ => rfl) (show 0 < 1 from by omega) rfl m19 (show n19 < 5 from by omega) (fun x18 e18 => ?_)
      have g18 : x18.toInt = (I1 35 0 n19).toInt := by rw [e18]
      have r18 : 0 ≤ x18.toInt ∧ x18.toInt ≤ 24 := by rw [e18]; exact hI1.1 35 0 n19
      exact th_iret C hQ dc_O_look_132 (by decide) (by decide) ⟨_, _, rfl, rfl, hI1, trivial⟩
    · refine th_tableIn (tgt := 133) C dc_O_look_21 (by omega) (by omega) (by rw [w4]; rfl) (by decide) ?_
      refine th_aload_n C dc_O_look_133 rfl rfl ?_
      refine tq_getR C dc_O_look_134 cl_20 fd_O_55 rfl (show 0 < 1 from by omega) rfl ?_
      refine th_iload_n C dc_O_look_137 rfl rfl ?_
      obtain ⟨n21, m21⟩ := th_nat (a := t.toInt) (by omega)
      refine tq_ialdN C dc_O_look_138 rfl (fun _ => rfl) (show 0 < 1 from by omega) rfl m21 (show n21 < 5 from by omega) (fun x20 e20 => ?_)
      have g20 : x20.toInt = (I1 36 0 n21).toInt := by rw [e20]
      exact th_iret C hQ dc_O_look_139 (by decide) (by decide) ⟨_, _, rfl, rfl, hI1, trivial⟩
    · refine th_tableIn (tgt := 140) C dc_O_look_21 (by omega) (by omega) (by rw [w4]; rfl) (by decide) ?_
      refine th_aload_n C dc_O_look_140 rfl rfl ?_
      refine tq_getR C dc_O_look_141 cl_20 fd_O_58 rfl (show 0 < 1 from by omega) rfl ?_
      refine th_iload_n C dc_O_look_144 rfl rfl ?_
      obtain ⟨n23, m23⟩ := th_nat (a := t.toInt) (by omega)
      refine tq_ialdN C dc_O_look_145 rfl (fun _ => rfl) (show 0 < 1 from by omega) rfl m23 (show n23 < 5 from by omega) (fun x22 e22 => ?_)
      have g22 : x22.toInt = (I1 37 0 n23).toInt := by rw [e22]
      exact th_iret C hQ dc_O_look_146 (by decide) (by decide) ⟨_, _, rfl, rfl, hI1, trivial⟩
    · refine th_tableIn (tgt := 147) C dc_O_look_21 (by omega) (by omega) (by rw [w4]; rfl) (by decide) ?_
      refine th_aload_n C dc_O_look_147 rfl rfl ?_
      refine tq_getR C dc_O_look_148 cl_20 fd_O_101 rfl (show 0 < 1 from by omega) rfl ?_
      refine th_iload_n C dc_O_look_151 rfl rfl ?_
      obtain ⟨n25, m25⟩ := th_nat (a := t.toInt) (by omega)
      refine tq_ialdN C dc_O_look_152 rfl (fun _ => rfl) (show 0 < 1 from by omega) rfl m25 (show n25 < 5 from by omega) (fun x24 e24 => ?_)
      have g24 : x24.toInt = (I1 51 0 n25).toInt := by rw [e24]
      have r24 : 0 ≤ x24.toInt ∧ x24.toInt ≤ 5 := by rw [e24]; exact hI1.1 51 0 n25
      exact th_iret C hQ dc_O_look_153 (by decide) (by decide) ⟨_, _, rfl, rfl, hI1, trivial⟩
    · refine th_tableOut (tgt := 154) C dc_O_look_21 w4 (by decide) ?_
      refine th_aload_n C dc_O_look_154 rfl rfl ?_
      refine th_iconst (v := 1) C dc_O_look_155 th_c_1 ?_
      refine tq_callVi C (o_O_refuse l hl I1 ((1 : Int32)) hI1) ok_O_124 cl_20 (show 0 < 1 from by omega) rfl (Nat.le_of_ble_eq_true rfl) dc_O_look_156 rfl (fun x26 I26 p26 => ?_)
      obtain ⟨hI26, p26⟩ := p26
      try simp only [th_l_1] at p26
      exact th_iret C hQ dc_O_look_159 (by decide) (by decide) ⟨_, _, rfl, rfl, hI26, trivial⟩
  · refine th_aload_n C dc_O_look_14 rfl rfl ?_
    refine th_iconst (v := 1) C dc_O_look_15 th_c_1 ?_
    refine tq_callVi C (o_O_refuse l hl I1 ((1 : Int32)) hI1) ok_O_124 cl_20 (show 0 < 1 from by omega) rfl (Nat.le_of_ble_eq_true rfl) dc_O_look_16 rfl (fun x27 I27 p27 => ?_)
    obtain ⟨hI27, p27⟩ := p27
    try simp only [th_l_1] at p27
    exact th_iret C hQ dc_O_look_19 (by decide) (by decide) ⟨_, _, rfl, rfl, hI27, trivial⟩

set_option maxRecDepth 100000 in
set_option maxHeartbeats 4000000 in
theorem o_O_lock (l : Launch) (hl : l.stackTraces = false) {K sl : Int} {Z : th_I} (I : th_I) (m : Int32) (w : Int32) (hI : th_OI K sl Z I) : th_F l yn_O_lock cb_O_lock 3 (some .int) { frames := 1, cells := 0, slots := 0, locals := 22 } [.inr (some (20, 0)), .inl m, .inl w] (th_m I) (th_ri (fun x J => th_OI K sl Z J ∧ (True))) := by
  refine th_of hl (by decide +kernel) (Nat.le_of_ble_eq_true rfl) (fun z C hQ hN => ?_)
  show th_G l z 3 0 [(0, .inr (some (20, 0))), (1, .inl m), (2, .inl w)] [] (th_m I) 0 0
  have hb := hI.2.2.1
  refine th_aload_n C dc_O_lock_0 rfl rfl ?_
  refine th_iconst (v := 0) C dc_O_lock_1 th_c_0 ?_
  refine tq_putI C dc_O_lock_2 cl_20 fd_O_114 rfl (show 0 < 1 from by omega) rfl rfl ?_
  refine th_gen (P := fun J => th_OI K sl Z J ∧ J = th_u I 20 0 34 ((0 : Int32))) ⟨ro_put hI rfl trivial, rfl⟩ (fun I1 hI1 => ?_)
  obtain ⟨hI1, u1⟩ := hI1
  have e1 : (0 : Int32) = I1 20 0 34 := by rw [u1, th_u_eq]
  have g1 : 0 = (I1 20 0 34).toInt := by rw [← e1]; exact th_l_0.symm
  refine th_iload_n C dc_O_lock_5 rfl rfl ?_
  refine th_iconst (v := 0) C dc_O_lock_6 th_c_0 ?_
  refine th_iconst (v := 2) C dc_O_lock_7 th_c_2 ?_
  refine tq_callSp C (o_O_is l hl I1 m ((0 : Int32)) ((2 : Int32))) ok_O_117 rfl (Nat.le_of_ble_eq_true rfl) dc_O_lock_8 rfl (fun x2 p2 => ?_)
  try simp only [th_l_0, th_l_2] at p2
  refine tq_if_eq (tgt := 23) C dc_O_lock_11 (by decide) rfl (fun c3 => ?_) (fun c3 => ?_)
  · refine th_aload_n C dc_O_lock_23 rfl rfl ?_
    refine th_iconst (v := 1) C dc_O_lock_24 th_c_1 ?_
    refine tq_callVi C (o_O_refuse l hl I1 ((1 : Int32)) hI1) ok_O_124 cl_20 (show 0 < 1 from by omega) rfl (Nat.le_of_ble_eq_true rfl) dc_O_lock_25 rfl (fun x4 I4 p4 => ?_)
    obtain ⟨hI4, p4⟩ := p4
    try simp only [th_l_1] at p4
    exact th_iret C hQ dc_O_lock_28 (by decide) (by decide) ⟨_, _, rfl, rfl, hI4, trivial⟩
  · refine th_iload_n C dc_O_lock_14 rfl rfl ?_
    refine th_iconst (v := 0) C dc_O_lock_15 th_c_0 ?_
    refine th_iconst (v := 3) C dc_O_lock_16 th_c_3 ?_
    refine tq_callSp C (o_O_is l hl I1 w ((0 : Int32)) ((3 : Int32))) ok_O_117 rfl (Nat.le_of_ble_eq_true rfl) dc_O_lock_17 rfl (fun x5 p5 => ?_)
    try simp only [th_l_0, th_l_3] at p5
    refine tq_if_ne (tgt := 29) C dc_O_lock_20 (by decide) rfl (fun c6 => ?_) (fun c6 => ?_)
    · refine th_iload_n C dc_O_lock_29 rfl rfl ?_
      refine tq_if_ne (tgt := 42) C dc_O_lock_30 (by decide) rfl (fun c7 => ?_) (fun c7 => ?_)
      · refine th_iload_n C dc_O_lock_42 rfl rfl ?_
        refine th_iconst (v := 1) C dc_O_lock_43 th_c_1 ?_
        refine tq_icmp_ne (tgt := 56) C dc_O_lock_44 (by decide) rfl th_l_1 (fun c8 => ?_) (fun c8 => ?_)
        · refine th_iload_n C dc_O_lock_56 rfl rfl ?_
          refine th_iconst (v := 2) C dc_O_lock_57 th_c_2 ?_
          refine tq_icmp_ne (tgt := 70) C dc_O_lock_58 (by decide) rfl th_l_2 (fun c9 => ?_) (fun c9 => ?_)
          · refine th_aload_n C dc_O_lock_70 rfl rfl ?_
            refine tq_getR C dc_O_lock_71 cl_20 fd_O_95 rfl (show 0 < 1 from by omega) rfl ?_
            refine th_iload_n C dc_O_lock_74 rfl rfl ?_
            obtain ⟨n11, m11⟩ := th_nat (a := m.toInt) (by omega)
            refine tq_ialdN C dc_O_lock_75 rfl (fun _ => rfl) (show 0 < 1 from by omega) rfl m11 (show n11 < 3 from by omega) (fun x10 e10 => ?_)
            have g10 : x10.toInt = (I1 49 0 n11).toInt := by rw [e10]
            have r10 : 0 ≤ x10.toInt ∧ x10.toInt ≤ 5 := by rw [e10]; exact hI1.1 49 0 n11
            exact th_iret C hQ dc_O_lock_76 (by decide) (by decide) ⟨_, _, rfl, rfl, hI1, trivial⟩
          · refine th_aload_n C dc_O_lock_61 rfl rfl ?_
            refine tq_getR C dc_O_lock_62 cl_20 fd_O_89 rfl (show 0 < 1 from by omega) rfl ?_
            refine th_iload_n C dc_O_lock_65 rfl rfl ?_
            obtain ⟨n13, m13⟩ := th_nat (a := m.toInt) (by omega)
            refine tq_ialdN C dc_O_lock_66 rfl (fun _ => rfl) (show 0 < 1 from by omega) rfl m13 (show n13 < 3 from by omega) (fun x12 e12 => ?_)
            have g12 : x12.toInt = (I1 47 0 n13).toInt := by rw [e12]
            have r12 : 0 ≤ x12.toInt ∧ x12.toInt ≤ 5 := by rw [e12]; exact hI1.1 47 0 n13
            refine th_goto (tgt := 76) C dc_O_lock_67 (by decide) ?_
            exact th_iret C hQ dc_O_lock_76 (by decide) (by decide) ⟨_, _, rfl, rfl, hI1, trivial⟩
        · refine th_aload_n C dc_O_lock_47 rfl rfl ?_
          refine tq_getR C dc_O_lock_48 cl_20 fd_O_83 rfl (show 0 < 1 from by omega) rfl ?_
          refine th_iload_n C dc_O_lock_51 rfl rfl ?_
          obtain ⟨n15, m15⟩ := th_nat (a := m.toInt) (by omega)
          refine tq_ialdN C dc_O_lock_52 rfl (fun _ => rfl) (show 0 < 1 from by omega) rfl m15 (show n15 < 3 from by omega) (fun x14 e14 => ?_)
          have g14 : x14.toInt = (I1 45 0 n15).toInt := by rw [e14]
          refine th_goto (tgt := 76) C dc_O_lock_53 (by decide) ?_
          exact th_iret C hQ dc_O_lock_76 (by decide) (by decide) ⟨_, _, rfl, rfl, hI1, trivial⟩
      · refine th_aload_n C dc_O_lock_33 rfl rfl ?_
        refine tq_getR C dc_O_lock_34 cl_20 fd_O_80 rfl (show 0 < 1 from by omega) rfl ?_
        refine th_iload_n C dc_O_lock_37 rfl rfl ?_
        obtain ⟨n17, m17⟩ := th_nat (a := m.toInt) (by omega)
        refine tq_ialdN C dc_O_lock_38 rfl (fun _ => rfl) (show 0 < 1 from by omega) rfl m17 (show n17 < 3 from by omega) (fun x16 e16 => ?_)
        have g16 : x16.toInt = (I1 44 0 n17).toInt := by rw [e16]
        refine th_goto (tgt := 76) C dc_O_lock_39 (by decide) ?_
        exact th_iret C hQ dc_O_lock_76 (by decide) (by decide) ⟨_, _, rfl, rfl, hI1, trivial⟩
    · refine th_aload_n C dc_O_lock_23 rfl rfl ?_
      refine th_iconst (v := 1) C dc_O_lock_24 th_c_1 ?_
      refine tq_callVi C (o_O_refuse l hl I1 ((1 : Int32)) hI1) ok_O_124 cl_20 (show 0 < 1 from by omega) rfl (Nat.le_of_ble_eq_true rfl) dc_O_lock_25 rfl (fun x18 I18 p18 => ?_)
      obtain ⟨hI18, p18⟩ := p18
      try simp only [th_l_1] at p18
      exact th_iret C hQ dc_O_lock_28 (by decide) (by decide) ⟨_, _, rfl, rfl, hI18, trivial⟩

set_option maxRecDepth 100000 in
set_option maxHeartbeats 4000000 in
theorem o_O_said (l : Launch) (hl : l.stackTraces = false) {K sl : Int} {Z : th_I} (I : th_I) (k : Int32) (hI : th_OI K sl Z I) : th_F l yn_O_said cb_O_said 2 (some .int) { frames := 1, cells := 0, slots := 0, locals := 22 } [.inr (some (20, 0)), .inl k] (th_m I) (th_ri (fun x J => th_OI K sl Z J ∧ (True))) := by
  refine th_of hl (by decide +kernel) (Nat.le_of_ble_eq_true rfl) (fun z C hQ hN => ?_)
  show th_G l z 2 0 [(0, .inr (some (20, 0))), (1, .inl k)] [] (th_m I) 0 0
  have hb := hI.2.2.1
  refine th_aload_n C dc_O_said_0 rfl rfl ?_
  refine th_iconst (v := 0) C dc_O_said_1 th_c_0 ?_
  refine tq_putI C dc_O_said_2 cl_20 fd_O_114 rfl (show 0 < 1 from by omega) rfl rfl ?_
  refine th_gen (P := fun J => th_OI K sl Z J ∧ J = th_u I 20 0 34 ((0 : Int32))) ⟨ro_put hI rfl trivial, rfl⟩ (fun I1 hI1 => ?_)
  obtain ⟨hI1, u1⟩ := hI1
  have e1 : (0 : Int32) = I1 20 0 34 := by rw [u1, th_u_eq]
  have g1 : 0 = (I1 20 0 34).toInt := by rw [← e1]; exact th_l_0.symm
  refine th_iload_n C dc_O_said_5 rfl rfl ?_
  refine th_iconst (v := 0) C dc_O_said_6 th_c_0 ?_
  refine th_bipush (v := 39) C dc_O_said_7 th_b_39 ?_
  refine tq_callSp C (o_O_is l hl I1 k ((0 : Int32)) ((39 : Int32))) ok_O_117 rfl (Nat.le_of_ble_eq_true rfl) dc_O_said_9 rfl (fun x2 p2 => ?_)
  try simp only [th_l_0, th_l_39] at p2
  refine tq_if_eq (tgt := 34) C dc_O_said_12 (by decide) rfl (fun c3 => ?_) (fun c3 => ?_)
  · refine th_aload_n C dc_O_said_34 rfl rfl ?_
    refine th_iconst (v := 1) C dc_O_said_35 th_c_1 ?_
    refine tq_callVi C (o_O_refuse l hl I1 ((1 : Int32)) hI1) ok_O_124 cl_20 (show 0 < 1 from by omega) rfl (Nat.le_of_ble_eq_true rfl) dc_O_said_36 rfl (fun x4 I4 p4 => ?_)
    obtain ⟨hI4, p4⟩ := p4
    try simp only [th_l_1] at p4
    exact th_iret C hQ dc_O_said_39 (by decide) (by decide) ⟨_, _, rfl, rfl, hI4, trivial⟩
  · refine th_iload_n C dc_O_said_15 rfl rfl ?_
    refine th_aload_n C dc_O_said_16 rfl rfl ?_
    refine tq_getR C dc_O_said_17 cl_20 fd_O_107 rfl (show 0 < 1 from by omega) rfl ?_
    refine th_iconst (v := 0) C dc_O_said_20 th_c_0 ?_
    refine tq_ialdN C dc_O_said_21 rfl (fun _ => rfl) (show 0 < 1 from by omega) th_l_0 (by decide) (show 0 < 8 from by omega) (fun x5 e5 => ?_)
    have g5 : x5.toInt = (I1 53 0 0).toInt := by rw [e5]
    have r5 : 0 ≤ x5.toInt ∧ x5.toInt ≤ K := by rw [e5]; exact hI1.1 53 0 0
    refine tq_icmp_ge (tgt := 34) C dc_O_said_22 (by decide) rfl rfl (fun c6 => ?_) (fun c6 => ?_)
    · refine th_aload_n C dc_O_said_34 rfl rfl ?_
      refine th_iconst (v := 1) C dc_O_said_35 th_c_1 ?_
      refine tq_callVi C (o_O_refuse l hl I1 ((1 : Int32)) hI1) ok_O_124 cl_20 (show 0 < 1 from by omega) rfl (Nat.le_of_ble_eq_true rfl) dc_O_said_36 rfl (fun x7 I7 p7 => ?_)
      obtain ⟨hI7, p7⟩ := p7
      try simp only [th_l_1] at p7
      exact th_iret C hQ dc_O_said_39 (by decide) (by decide) ⟨_, _, rfl, rfl, hI7, trivial⟩
    · refine th_aload_n C dc_O_said_25 rfl rfl ?_
      refine tq_getR C dc_O_said_26 cl_20 fd_O_104 rfl (show 0 < 1 from by omega) rfl ?_
      refine th_iload_n C dc_O_said_29 rfl rfl ?_
      obtain ⟨n9, m9⟩ := th_nat (a := k.toInt) (by omega)
      refine tq_ialdN C dc_O_said_30 rfl (fun _ => rfl) (show 0 < 1 from by omega) rfl m9 (show n9 < 40 from by omega) (fun x8 e8 => ?_)
      have g8 : x8.toInt = (I1 52 0 n9).toInt := by rw [e8]
      refine th_goto (tgt := 39) C dc_O_said_31 (by decide) ?_
      exact th_iret C hQ dc_O_said_39 (by decide) (by decide) ⟨_, _, rfl, rfl, hI1, trivial⟩

