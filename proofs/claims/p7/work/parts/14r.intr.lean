set_option maxRecDepth 100000 in
set_option maxHeartbeats 4000000 in
theorem o_O_interrupted (l : Launch) (hl : l.stackTraces = false) {K sl : Int} {Z : th_I} (I : th_I) (t : Int32) (tn : Nat) (hI : th_OI K sl Z I) (htn : (tn : Int) = t.toInt) (ht : 0 ≤ t.toInt ∧ t.toInt ≤ 4) : th_F l yn_O_interrupted cb_O_interrupted 2 (some .boolean) { frames := 2, cells := 0, slots := 0, locals := 47 } [.inr (some (20, 0)), .inl t] (th_m I) (th_ri (fun x J => th_OI K sl Z J ∧ (True))) := by
  refine th_of hl (by decide +kernel) (Nat.le_of_ble_eq_true rfl) (fun z C hQ hN => ?_)
  show th_G l z 2 0 [(0, .inr (some (20, 0))), (1, .inl t)] [] (th_m I) 0 0
  have hb := hI.2.2.1
  refine th_aload_n C dc_O_interrupted_0 rfl rfl ?_
  refine th_iload_n C dc_O_interrupted_1 rfl rfl ?_
  refine tq_callVp C (o_O_alive l hl I t tn hI htn (by omega)) ok_O_128 cl_20 (show 0 < 1 from by omega) rfl (Nat.le_of_ble_eq_true rfl) dc_O_interrupted_2 rfl (fun x1 p1 => ?_)
  refine tq_if_ne (tgt := 10) C dc_O_interrupted_5 (by decide) rfl (fun c2 => ?_) (fun c2 => ?_)
  · refine th_aload_n C dc_O_interrupted_10 rfl rfl ?_
    refine tq_getR C dc_O_interrupted_11 cl_20 fd_O_43 rfl (show 0 < 1 from by omega) rfl ?_
    refine th_iload_n C dc_O_interrupted_14 rfl rfl ?_
    refine tq_ialdN C dc_O_interrupted_15 rfl (fun _ => rfl) (show 0 < 1 from by omega) rfl htn (show tn < 5 from by omega) (fun x3 e3 => ?_)
    have g3 : x3.toInt = (I 32 0 tn).toInt := by rw [e3]
    refine th_iconst (v := 3) C dc_O_interrupted_16 th_c_3 ?_
    refine tq_icmp_ne (tgt := 35) C dc_O_interrupted_17 (by decide) rfl th_l_3 (fun c4 => ?_) (fun c4 => ?_)
    · refine th_aload_n C dc_O_interrupted_35 rfl rfl ?_
      refine tq_getR C dc_O_interrupted_36 cl_20 fd_O_43 rfl (show 0 < 1 from by omega) rfl ?_
      refine th_iload_n C dc_O_interrupted_39 rfl rfl ?_
      refine tq_ialdE C dc_O_interrupted_40 rfl (fun _ => rfl) (show 0 < 1 from by omega) rfl htn (show tn < 5 from by omega) e3 ?_
      refine th_iconst (v := 4) C dc_O_interrupted_41 th_c_4 ?_
      refine tq_icmp_ne (tgt := 60) C dc_O_interrupted_42 (by decide) rfl th_l_4 (fun c6 => ?_) (fun c6 => ?_)
      · refine th_aload_n C dc_O_interrupted_60 rfl rfl ?_
        refine tq_getR C dc_O_interrupted_61 cl_20 fd_O_73 rfl (show 0 < 1 from by omega) rfl ?_
        refine th_iload_n C dc_O_interrupted_64 rfl rfl ?_
        refine th_iconst (v := 1) C dc_O_interrupted_65 th_c_1 ?_
        refine tq_zastN C dc_O_interrupted_66 rfl (fun _ => rfl) (show 0 < 1 from by omega) rfl htn (show tn < 5 from by omega) rfl ?_
        refine th_gen (P := fun J => th_OI K sl Z J ∧ J = th_u I 42 0 tn ((1 : Int32))) ⟨ro_put hI rfl trivial, rfl⟩ (fun I7 hI7 => ?_)
        obtain ⟨hI7, u7⟩ := hI7
        have e8 : x3 = I7 32 0 tn := by rw [u7, th_u_tag (by decide)]; exact e3
        have g8 : x3.toInt = (I7 32 0 tn).toInt := by rw [← e8]
        have e7 : (1 : Int32) = I7 42 0 tn := by rw [u7, th_u_eq]
        have g7 : 1 = (I7 42 0 tn).toInt := by rw [← e7]; exact th_l_1.symm
        refine th_iconst (v := 1) C dc_O_interrupted_67 th_c_1 ?_
        exact th_zret C hQ dc_O_interrupted_68 (rfl) (by decide) (by decide) ⟨_, _, rfl, rfl, hI7, trivial⟩
      · refine th_aload_n C dc_O_interrupted_45 rfl rfl ?_
        refine tq_getR C dc_O_interrupted_46 cl_20 fd_O_77 rfl (show 0 < 1 from by omega) rfl ?_
        refine th_iload_n C dc_O_interrupted_49 rfl rfl ?_
        refine th_iconst (v := 1) C dc_O_interrupted_50 th_c_1 ?_
        refine tq_zastN C dc_O_interrupted_51 rfl (fun _ => rfl) (show 0 < 1 from by omega) rfl htn (show tn < 5 from by omega) rfl ?_
        refine th_gen (P := fun J => th_OI K sl Z J ∧ J = th_u I 43 0 tn ((1 : Int32))) ⟨ro_put hI rfl trivial, rfl⟩ (fun I9 hI9 => ?_)
        obtain ⟨hI9, u9⟩ := hI9
        have e10 : x3 = I9 32 0 tn := by rw [u9, th_u_tag (by decide)]; exact e3
        have g10 : x3.toInt = (I9 32 0 tn).toInt := by rw [← e10]
        have e9 : (1 : Int32) = I9 43 0 tn := by rw [u9, th_u_eq]
        have g9 : 1 = (I9 43 0 tn).toInt := by rw [← e9]; exact th_l_1.symm
        refine th_aload_n C dc_O_interrupted_52 rfl rfl ?_
        refine th_iload_n C dc_O_interrupted_53 rfl rfl ?_
        refine tq_callVv C (o_O_leaveJoin l hl I9 t tn hI9 htn (by omega) (by omega)) ok_O_157 cl_20 (show 0 < 1 from by omega) rfl (Nat.le_of_ble_eq_true rfl) dc_O_interrupted_54 rfl (fun I11 p11 => ?_)
        obtain ⟨hI11, p11⟩ := p11
        refine th_goto (tgt := 67) C dc_O_interrupted_57 (by decide) ?_
        refine th_iconst (v := 1) C dc_O_interrupted_67 th_c_1 ?_
        exact th_zret C hQ dc_O_interrupted_68 (rfl) (by decide) (by decide) ⟨_, _, rfl, rfl, hI11, trivial⟩
    · refine th_aload_n C dc_O_interrupted_20 rfl rfl ?_
      refine tq_getR C dc_O_interrupted_21 cl_20 fd_O_77 rfl (show 0 < 1 from by omega) rfl ?_
      refine th_iload_n C dc_O_interrupted_24 rfl rfl ?_
      refine th_iconst (v := 1) C dc_O_interrupted_25 th_c_1 ?_
      refine tq_zastN C dc_O_interrupted_26 rfl (fun _ => rfl) (show 0 < 1 from by omega) rfl htn (show tn < 5 from by omega) rfl ?_
      refine th_gen (P := fun J => th_OI K sl Z J ∧ J = th_u I 43 0 tn ((1 : Int32))) ⟨ro_put hI rfl trivial, rfl⟩ (fun I12 hI12 => ?_)
      obtain ⟨hI12, u12⟩ := hI12
      have e13 : x3 = I12 32 0 tn := by rw [u12, th_u_tag (by decide)]; exact e3
      have g13 : x3.toInt = (I12 32 0 tn).toInt := by rw [← e13]
      have e12 : (1 : Int32) = I12 43 0 tn := by rw [u12, th_u_eq]
      have g12 : 1 = (I12 43 0 tn).toInt := by rw [← e12]; exact th_l_1.symm
      refine th_aload_n C dc_O_interrupted_27 rfl rfl ?_
      refine th_iload_n C dc_O_interrupted_28 rfl rfl ?_
      refine tq_callVv C (o_O_leaveWait l hl I12 t tn hI12 htn (by omega) (by omega)) ok_O_154 cl_20 (show 0 < 1 from by omega) rfl (Nat.le_of_ble_eq_true rfl) dc_O_interrupted_29 rfl (fun I14 p14 => ?_)
      obtain ⟨hI14, p14⟩ := p14
      refine th_goto (tgt := 67) C dc_O_interrupted_32 (by decide) ?_
      refine th_iconst (v := 1) C dc_O_interrupted_67 th_c_1 ?_
      exact th_zret C hQ dc_O_interrupted_68 (rfl) (by decide) (by decide) ⟨_, _, rfl, rfl, hI14, trivial⟩
  · refine th_iconst (v := 0) C dc_O_interrupted_8 th_c_0 ?_
    exact th_zret C hQ dc_O_interrupted_9 (rfl) (by decide) (by decide) ⟨_, _, rfl, rfl, hI, trivial⟩

set_option maxRecDepth 100000 in
set_option maxHeartbeats 4000000 in
theorem o_O_interrupt (l : Launch) (hl : l.stackTraces = false) {K sl : Int} {Z : th_I} (I : th_I) (t : Int32) (hI : th_OI K sl Z I) : th_F l yn_O_interrupt cb_O_interrupt 2 (some .int) { frames := 3, cells := 0, slots := 0, locals := 68 } [.inr (some (20, 0)), .inl t] (th_m I) (th_ri (fun x J => th_OI K sl Z J ∧ (True))) := by
  refine th_of hl (by decide +kernel) (Nat.le_of_ble_eq_true rfl) (fun z C hQ hN => ?_)
  show th_G l z 2 0 [(0, .inr (some (20, 0))), (1, .inl t)] [] (th_m I) 0 0
  have hb := hI.2.2.1
  refine th_aload_n C dc_O_interrupt_0 rfl rfl ?_
  refine th_iconst (v := 0) C dc_O_interrupt_1 th_c_0 ?_
  refine tq_putI C dc_O_interrupt_2 cl_20 fd_O_114 rfl (show 0 < 1 from by omega) rfl rfl ?_
  refine th_gen (P := fun J => th_OI K sl Z J ∧ J = th_u I 20 0 34 ((0 : Int32))) ⟨ro_put hI rfl trivial, rfl⟩ (fun I1 hI1 => ?_)
  obtain ⟨hI1, u1⟩ := hI1
  have e1 : (0 : Int32) = I1 20 0 34 := by rw [u1, th_u_eq]
  have g1 : 0 = (I1 20 0 34).toInt := by rw [← e1]; exact th_l_0.symm
  refine th_iload_n C dc_O_interrupt_5 rfl rfl ?_
  refine th_iconst (v := 0) C dc_O_interrupt_6 th_c_0 ?_
  refine th_iconst (v := 4) C dc_O_interrupt_7 th_c_4 ?_
  refine tq_callSp C (o_O_is l hl I1 t ((0 : Int32)) ((4 : Int32))) ok_O_117 rfl (Nat.le_of_ble_eq_true rfl) dc_O_interrupt_8 rfl (fun x2 p2 => ?_)
  try simp only [th_l_0, th_l_4] at p2
  refine tq_if_ne (tgt := 20) C dc_O_interrupt_11 (by decide) rfl (fun c3 => ?_) (fun c3 => ?_)
  · refine th_aload_n C dc_O_interrupt_20 rfl rfl ?_
    refine th_iload_n C dc_O_interrupt_21 rfl rfl ?_
    obtain ⟨n4, m4⟩ := th_nat (a := t.toInt) (by omega)
    refine tq_callVi C (o_O_interrupted l hl I1 t n4 hI1 m4 (by omega)) ok_O_185 cl_20 (show 0 < 1 from by omega) rfl (Nat.le_of_ble_eq_true rfl) dc_O_interrupt_22 rfl (fun x5 I5 p5 => ?_)
    obtain ⟨hI5, p5⟩ := p5
    refine tq_if_eq (tgt := 32) C dc_O_interrupt_25 (by decide) rfl (fun c6 => ?_) (fun c6 => ?_)
    · refine th_iconst (v := 0) C dc_O_interrupt_32 th_c_0 ?_
      exact th_iret C hQ dc_O_interrupt_33 (by decide) (by decide) ⟨_, _, rfl, rfl, hI5, trivial⟩
    · refine th_iconst (v := 1) C dc_O_interrupt_28 th_c_1 ?_
      refine th_goto (tgt := 33) C dc_O_interrupt_29 (by decide) ?_
      exact th_iret C hQ dc_O_interrupt_33 (by decide) (by decide) ⟨_, _, rfl, rfl, hI5, trivial⟩
  · refine th_aload_n C dc_O_interrupt_14 rfl rfl ?_
    refine th_iconst (v := 1) C dc_O_interrupt_15 th_c_1 ?_
    refine tq_callVi C (o_O_refuse l hl I1 ((1 : Int32)) hI1) ok_O_124 cl_20 (show 0 < 1 from by omega) rfl (Nat.le_of_ble_eq_true rfl) dc_O_interrupt_16 rfl (fun x7 I7 p7 => ?_)
    obtain ⟨hI7, p7⟩ := p7
    try simp only [th_l_1] at p7
    exact th_iret C hQ dc_O_interrupt_19 (by decide) (by decide) ⟨_, _, rfl, rfl, hI7, trivial⟩

