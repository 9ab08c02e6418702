set_option maxRecDepth 100000 in
set_option maxHeartbeats 4000000 in
theorem o_O_await (l : Launch) (hl : l.stackTraces = false) {K sl : Int} {Z : th_I} (I : th_I) (t : Int32) (c : Int32) (m : Int32) (tn : Nat) (cn : Nat) (mn : Nat) (hI : th_OI K sl Z I) (htn : (tn : Int) = t.toInt) (hcn : (cn : Int) = c.toInt) (hmn : (mn : Int) = m.toInt) (ht : 0 ≤ t.toInt ∧ t.toInt ≤ 4) (hc : 0 ≤ c.toInt ∧ c.toInt ≤ 2) (hm : 0 ≤ m.toInt ∧ m.toInt ≤ 2) (hs : (I 32 0 tn).toInt = 1) : th_F l yn_O_await cb_O_await 4 none { frames := 5, cells := 0, slots := 0, locals := 114 } [.inr (some (20, 0)), .inl t, .inl c, .inl m] (th_m I) (th_rv (fun J => th_OI K sl Z J ∧ (True))) := by
  refine th_of hl (by decide +kernel) (Nat.le_of_ble_eq_true rfl) (fun z C hQ hN => ?_)
  show th_G l z 4 0 [(0, .inr (some (20, 0))), (1, .inl t), (2, .inl c), (3, .inl m)] [] (th_m I) 0 0
  have hb := hI.2.2.1
  refine th_aload_n C dc_O_await_0 rfl rfl ?_
  refine tq_getR C dc_O_await_1 cl_20 fd_O_80 rfl (show 0 < 1 from by omega) rfl ?_
  refine th_iload_n C dc_O_await_4 rfl rfl ?_
  refine tq_ialdN C dc_O_await_5 rfl (fun _ => rfl) (show 0 < 1 from by omega) rfl hmn (show mn < 3 from by omega) (fun x1 e1 => ?_)
  have g1 : x1.toInt = (I 44 0 mn).toInt := by rw [e1]
  refine th_iload_n C dc_O_await_6 rfl rfl ?_
  refine tq_icmp_eq (tgt := 17) C dc_O_await_7 (by decide) rfl rfl (fun c2 => ?_) (fun c2 => ?_)
  · refine th_aload_n C dc_O_await_17 rfl rfl ?_
    refine th_iload_n C dc_O_await_18 rfl rfl ?_
    refine tq_callVi C (o_O_isStopped l hl I t tn hI htn (by omega) (by omega)) ok_O_163 cl_20 (show 0 < 1 from by omega) rfl (Nat.le_of_ble_eq_true rfl) dc_O_await_19 rfl (fun x3 I3 p3 => ?_)
    obtain ⟨hI3, p3⟩ := p3
    refine tq_if_eq (tgt := 26) C dc_O_await_22 (by decide) rfl (fun c4 => ?_) (fun c4 => ?_)
    · have ej : I3 = I := (p3.resolve_right (fun q => absurd q (by omega))).2
      have s1 : (I3 32 0 tn).toInt = 1 := by rw [ej]; exact hs
      refine th_aload_n C dc_O_await_26 rfl rfl ?_
      refine tq_getR C dc_O_await_27 cl_20 fd_O_61 rfl (show 0 < 1 from by omega) rfl ?_
      refine th_iload_n C dc_O_await_30 rfl rfl ?_
      refine th_iload_n C dc_O_await_31 rfl rfl ?_
      refine tq_iastN C dc_O_await_32 rfl (fun _ => rfl) (show 0 < 1 from by omega) rfl htn (show tn < 5 from by omega) ?_
      refine th_gen (P := fun J => th_OI K sl Z J ∧ J = th_u I3 38 0 tn m) ⟨ro_key38 hI3 (ro_no_of hI3.2.2.2.2.1 (by omega)) (by omega), rfl⟩ (fun I5 hI5 => ?_)
      obtain ⟨hI5, u5⟩ := hI5
      have e5 : m = I5 38 0 tn := by rw [u5, th_u_eq]
      have g5 : m.toInt = (I5 38 0 tn).toInt := by rw [← e5]
      have s1 : (I5 32 0 tn).toInt = 1 := by rw [u5, th_u_tag (by decide)]; exact s1
      refine th_aload_n C dc_O_await_33 rfl rfl ?_
      refine tq_getR C dc_O_await_34 cl_20 fd_O_64 rfl (show 0 < 1 from by omega) rfl ?_
      refine th_iload_n C dc_O_await_37 rfl rfl ?_
      refine th_aload_n C dc_O_await_38 rfl rfl ?_
      refine tq_getR C dc_O_await_39 cl_20 fd_O_83 rfl (show 0 < 1 from by omega) rfl ?_
      refine th_iload_n C dc_O_await_42 rfl rfl ?_
      refine tq_ialdN C dc_O_await_43 rfl (fun _ => rfl) (show 0 < 1 from by omega) rfl hmn (show mn < 3 from by omega) (fun x6 e6 => ?_)
      have g6 : x6.toInt = (I5 45 0 mn).toInt := by rw [e6]
      refine tq_iastN C dc_O_await_44 rfl (fun _ => rfl) (show 0 < 1 from by omega) rfl htn (show tn < 5 from by omega) ?_
      refine th_gen (P := fun J => th_OI K sl Z J ∧ J = th_u I5 39 0 tn x6) ⟨ro_put hI5 rfl trivial, rfl⟩ (fun I7 hI7 => ?_)
      obtain ⟨hI7, u7⟩ := hI7
      have e8 : m = I7 38 0 tn := by rw [u7, th_u_tag (by decide)]; exact e5
      have g8 : m.toInt = (I7 38 0 tn).toInt := by rw [← e8]
      have e9 : x6 = I7 45 0 mn := by rw [u7, th_u_tag (by decide)]; exact e6
      have g9 : x6.toInt = (I7 45 0 mn).toInt := by rw [← e9]
      have e7 : x6 = I7 39 0 tn := by rw [u7, th_u_eq]
      have g7 : x6.toInt = (I7 39 0 tn).toInt := by rw [← e7]
      refine th_aload_n C dc_O_await_45 rfl rfl ?_
      refine tq_getR C dc_O_await_46 cl_20 fd_O_67 rfl (show 0 < 1 from by omega) rfl ?_
      refine th_iload_n C dc_O_await_49 rfl rfl ?_
      refine th_iload_n C dc_O_await_50 rfl rfl ?_
      have s1 : (I7 32 0 tn).toInt = 1 := by rw [u7, th_u_tag (by decide)]; exact s1
      have n46 := ro_no_of hI7.2.2.2.2.1 (show (I7 32 0 tn).toInt ≠ 2 from by omega)
      have n48 := ro_no_of hI7.2.2.2.2.2.1 (show (I7 32 0 tn).toInt ≠ 3 from by omega)
      have n50 := ro_no_of hI7.2.2.2.2.2.2.1 (show (I7 32 0 tn).toInt ≠ 4 from by omega)
      refine tq_iastN C dc_O_await_51 rfl (fun _ => rfl) (show 0 < 1 from by omega) rfl htn (show tn < 5 from by omega) ?_
      refine th_gen (P := fun J => th_OI K sl Z J ∧ J = th_u I7 40 0 tn c) ⟨ro_key40 hI7 n48 n50 (by omega) (by omega), rfl⟩ (fun I10 hI10 => ?_)
      obtain ⟨hI10, u10⟩ := hI10
      have e11 : m = I10 38 0 tn := by rw [u10, th_u_tag (by decide)]; exact e8
      have g11 : m.toInt = (I10 38 0 tn).toInt := by rw [← e11]
      have e12 : x6 = I10 45 0 mn := by rw [u10, th_u_tag (by decide)]; exact e9
      have g12 : x6.toInt = (I10 45 0 mn).toInt := by rw [← e12]
      have e13 : x6 = I10 39 0 tn := by rw [u10, th_u_tag (by decide)]; exact e7
      have g13 : x6.toInt = (I10 39 0 tn).toInt := by rw [← e13]
      have e10 : c = I10 40 0 tn := by rw [u10, th_u_eq]
      have g10 : c.toInt = (I10 40 0 tn).toInt := by rw [← e10]
      refine th_aload_n C dc_O_await_52 rfl rfl ?_
      refine tq_getR C dc_O_await_53 cl_20 fd_O_43 rfl (show 0 < 1 from by omega) rfl ?_
      refine th_iload_n C dc_O_await_56 rfl rfl ?_
      refine th_iconst (v := 3) C dc_O_await_57 th_c_3 ?_
      have s1 : (I10 32 0 tn).toInt = 1 := by rw [u10, th_u_tag (by decide)]; exact s1
      have n46 := ro_no_of hI10.2.2.2.2.1 (show (I10 32 0 tn).toInt ≠ 2 from by omega)
      have n48 := ro_no_of hI10.2.2.2.2.2.1 (show (I10 32 0 tn).toInt ≠ 3 from by omega)
      have n50 := ro_no_of hI10.2.2.2.2.2.2.1 (show (I10 32 0 tn).toInt ≠ 4 from by omega)
      refine tq_iastN C dc_O_await_58 rfl (fun _ => rfl) (show 0 < 1 from by omega) rfl htn (show tn < 5 from by omega) ?_
      refine th_gen (P := fun J => th_OI K sl Z J ∧ J = th_u I10 32 0 tn ((3 : Int32))) ⟨ro_state3 hI10 n46 n48 n50 (by omega), rfl⟩ (fun I14 hI14 => ?_)
      obtain ⟨hI14, u14⟩ := hI14
      have e15 : m = I14 38 0 tn := by rw [u14, th_u_tag (by decide)]; exact e11
      have g15 : m.toInt = (I14 38 0 tn).toInt := by rw [← e15]
      have e16 : x6 = I14 45 0 mn := by rw [u14, th_u_tag (by decide)]; exact e12
      have g16 : x6.toInt = (I14 45 0 mn).toInt := by rw [← e16]
      have e17 : x6 = I14 39 0 tn := by rw [u14, th_u_tag (by decide)]; exact e13
      have g17 : x6.toInt = (I14 39 0 tn).toInt := by rw [← e17]
      have e18 : c = I14 40 0 tn := by rw [u14, th_u_tag (by decide)]; exact e10
      have g18 : c.toInt = (I14 40 0 tn).toInt := by rw [← e18]
      have e14 : (3 : Int32) = I14 32 0 tn := by rw [u14, th_u_eq]
      have g14 : 3 = (I14 32 0 tn).toInt := by rw [← e14]; exact th_l_3.symm
      have m48 : ro_no I14 48 49 3 tn := ro_no_upd n48 (fun q => by rw [u14, th_u_tag (by decide)]) (fun q => by rw [u14, th_u_tag (by decide)])
      have hf := ro_full hI14.2.2.2.2.2.1 m48 (by omega) (show cn < 3 from by omega) (fun k => hI14.1 48 0 k) (hI14.1 49 0 cn).2
      have hf0 : 0 ≤ (I14 49 0 cn).toInt := (hI14.1 49 0 cn).1
      have z40 : (I14 40 0 tn).toInt = (cn : Int) := by omega
      have z32 : (I14 32 0 tn).toInt = 3 := by have := th_l_3; omega
      refine th_aload_n C dc_O_await_59 rfl rfl ?_
      refine tq_getR C dc_O_await_60 cl_20 fd_O_92 rfl (show 0 < 1 from by omega) rfl ?_
      refine th_iconst (v := 5) C dc_O_await_63 th_c_5 ?_
      refine th_iload_n C dc_O_await_64 rfl rfl ?_
      refine tq_imul C dc_O_await_65 th_l_5 rfl (fun x19 e19 a19 => ?_)
      refine th_aload_n C dc_O_await_66 rfl rfl ?_
      refine tq_getR C dc_O_await_67 cl_20 fd_O_95 rfl (show 0 < 1 from by omega) rfl ?_
      refine th_iload_n C dc_O_await_70 rfl rfl ?_
      refine th_dup2 C dc_O_await_71 ?_
      refine tq_ialdN C dc_O_await_72 rfl (fun _ => rfl) (show 0 < 1 from by omega) rfl hcn (show cn < 3 from by omega) (fun x20 e20 => ?_)
      have g20 : x20.toInt = (I14 49 0 cn).toInt := by rw [e20]
      have r20 : 0 ≤ x20.toInt ∧ x20.toInt ≤ 5 := by rw [e20]; exact hI14.1 49 0 cn
      refine th_dup_x2 C dc_O_await_73 ?_
      refine th_iconst (v := 1) C dc_O_await_74 th_c_1 ?_
      refine tq_iadd C dc_O_await_75 rfl th_l_1 (fun x21 e21 a21 => ?_)
      refine tq_iastN C dc_O_await_76 rfl (fun _ => rfl) (show 0 < 1 from by omega) rfl hcn (show cn < 3 from by omega) ?_
      refine th_gen (P := fun J => J = th_u I14 49 0 cn x21) rfl (fun I22 u22 => ?_)
      have e23 : m = I22 38 0 tn := by rw [u22, th_u_tag (by decide)]; exact e15
      have g23 : m.toInt = (I22 38 0 tn).toInt := by rw [← e23]
      have e24 : x6 = I22 45 0 mn := by rw [u22, th_u_tag (by decide)]; exact e16
      have g24 : x6.toInt = (I22 45 0 mn).toInt := by rw [← e24]
      have e25 : x6 = I22 39 0 tn := by rw [u22, th_u_tag (by decide)]; exact e17
      have g25 : x6.toInt = (I22 39 0 tn).toInt := by rw [← e25]
      have e26 : c = I22 40 0 tn := by rw [u22, th_u_tag (by decide)]; exact e18
      have g26 : c.toInt = (I22 40 0 tn).toInt := by rw [← e26]
      have e27 : (3 : Int32) = I22 32 0 tn := by rw [u22, th_u_tag (by decide)]; exact e14
      have g27 : (3 : Int32).toInt = (I22 32 0 tn).toInt := by rw [← e27]
      have e22 : x21 = I22 49 0 cn := by rw [u22, th_u_eq]
      have g22 : x21.toInt = (I22 49 0 cn).toInt := by rw [← e22]
      refine tq_iadd C dc_O_await_77 rfl rfl (fun x28 e28 a28 => ?_)
      refine th_iload_n C dc_O_await_78 rfl rfl ?_
      obtain ⟨n29, m29⟩ := th_nat (a := x28.toInt) (by omega)
      refine tq_iastN C dc_O_await_79 rfl (fun _ => rfl) (show 0 < 1 from by omega) rfl m29 (show n29 < 15 from by omega) ?_
      refine th_gen (P := fun J => th_OI K sl Z J ∧ J = th_u I22 48 0 n29 t) ⟨(by rw [u22]; exact ro_rowW hI14 (by omega) (by omega) m48 z32 z40 (by omega) (by omega) (by omega)), rfl⟩ (fun I30 hI30 => ?_)
      obtain ⟨hI30, u30⟩ := hI30
      have e31 : m = I30 38 0 tn := by rw [u30, th_u_tag (by decide)]; exact e23
      have g31 : m.toInt = (I30 38 0 tn).toInt := by rw [← e31]
      have e32 : x6 = I30 45 0 mn := by rw [u30, th_u_tag (by decide)]; exact e24
      have g32 : x6.toInt = (I30 45 0 mn).toInt := by rw [← e32]
      have e33 : x6 = I30 39 0 tn := by rw [u30, th_u_tag (by decide)]; exact e25
      have g33 : x6.toInt = (I30 39 0 tn).toInt := by rw [← e33]
      have e34 : c = I30 40 0 tn := by rw [u30, th_u_tag (by decide)]; exact e26
      have g34 : c.toInt = (I30 40 0 tn).toInt := by rw [← e34]
      have e35 : (3 : Int32) = I30 32 0 tn := by rw [u30, th_u_tag (by decide)]; exact e27
      have g35 : (3 : Int32).toInt = (I30 32 0 tn).toInt := by rw [← e35]
      have e36 : x21 = I30 49 0 cn := by rw [u30, th_u_tag (by decide)]; exact e22
      have g36 : x21.toInt = (I30 49 0 cn).toInt := by rw [← e36]
      have e30 : t = I30 48 0 n29 := by rw [u30, th_u_eq]
      have g30 : t.toInt = (I30 48 0 n29).toInt := by rw [← e30]
      refine th_aload_n C dc_O_await_80 rfl rfl ?_
      refine th_iload_n C dc_O_await_81 rfl rfl ?_
      refine tq_callVv C (o_O_pass l hl I30 m mn hI30 hmn (by omega)) ok_O_143 cl_20 (show 0 < 1 from by omega) rfl (Nat.le_of_ble_eq_true rfl) dc_O_await_82 rfl (fun I37 p37 => ?_)
      obtain ⟨hI37, p37⟩ := p37
      exact th_vret C hQ dc_O_await_85 (by decide) (by decide) ⟨_, rfl, rfl, hI37, trivial⟩
    · exact th_vret C hQ dc_O_await_25 (by decide) (by decide) ⟨_, rfl, rfl, hI3, trivial⟩
  · refine th_aload_n C dc_O_await_10 rfl rfl ?_
    refine th_iload_n C dc_O_await_11 rfl rfl ?_
    refine th_iconst (v := 3) C dc_O_await_12 th_c_3 ?_
    refine tq_callVv C (o_O_error l hl I t ((3 : Int32)) tn hI htn (by have := th_l_3; omega) (by have := th_l_3; omega)) ok_O_160 cl_20 (show 0 < 1 from by omega) rfl (Nat.le_of_ble_eq_true rfl) dc_O_await_13 rfl (fun I38 p38 => ?_)
    obtain ⟨hI38, p38⟩ := p38
    try simp only [th_l_3] at p38
    exact th_vret C hQ dc_O_await_16 (by decide) (by decide) ⟨_, rfl, rfl, hI38, trivial⟩

set_option maxRecDepth 100000 in
set_option maxHeartbeats 4000000 in
theorem o_O_join (l : Launch) (hl : l.stackTraces = false) {K sl : Int} {Z : th_I} (I : th_I) (t : Int32) (u : Int32) (s : Int32) (tn : Nat) (un : Nat) (hI : th_OI K sl Z I) (htn : (tn : Int) = t.toInt) (hun : (un : Int) = u.toInt) (ht : 0 ≤ t.toInt ∧ t.toInt ≤ 4) (hj : 0 ≤ u.toInt ∧ u.toInt ≤ 4) (hs : 0 ≤ s.toInt ∧ s.toInt ≤ 3) (hs : (I 32 0 tn).toInt = 1) : th_F l yn_O_join cb_O_join 4 none { frames := 5, cells := 0, slots := 0, locals := 114 } [.inr (some (20, 0)), .inl t, .inl u, .inl s] (th_m I) (th_rv (fun J => th_OI K sl Z J ∧ (True))) := by
  refine th_of hl (by decide +kernel) (Nat.le_of_ble_eq_true rfl) (fun z C hQ hN => ?_)
  show th_G l z 4 0 [(0, .inr (some (20, 0))), (1, .inl t), (2, .inl u), (3, .inl s)] [] (th_m I) 0 0
  have hb := hI.2.2.1
  refine th_iload_n C dc_O_join_0 rfl rfl ?_
  refine th_iload_n C dc_O_join_1 rfl rfl ?_
  refine tq_icmp_eq (tgt := 14) C dc_O_join_2 (by decide) rfl rfl (fun c1 => ?_) (fun c1 => ?_)
  · refine th_aload_n C dc_O_join_14 rfl rfl ?_
    refine th_iload_n C dc_O_join_15 rfl rfl ?_
    refine th_iconst (v := 5) C dc_O_join_16 th_c_5 ?_
    refine tq_callVv C (o_O_error l hl I t ((5 : Int32)) tn hI htn (by have := th_l_5; omega) (by have := th_l_5; omega)) ok_O_160 cl_20 (show 0 < 1 from by omega) rfl (Nat.le_of_ble_eq_true rfl) dc_O_join_17 rfl (fun I2 p2 => ?_)
    obtain ⟨hI2, p2⟩ := p2
    try simp only [th_l_5] at p2
    refine th_goto (tgt := 98) C dc_O_join_20 (by decide) ?_
    exact th_vret C hQ dc_O_join_98 (by decide) (by decide) ⟨_, rfl, rfl, hI2, trivial⟩
  · refine th_aload_n C dc_O_join_5 rfl rfl ?_
    refine tq_getR C dc_O_join_6 cl_20 fd_O_43 rfl (show 0 < 1 from by omega) rfl ?_
    refine th_iload_n C dc_O_join_9 rfl rfl ?_
    refine tq_ialdN C dc_O_join_10 rfl (fun _ => rfl) (show 0 < 1 from by omega) rfl hun (show un < 5 from by omega) (fun x3 e3 => ?_)
    have g3 : x3.toInt = (I 32 0 un).toInt := by rw [e3]
    refine tq_if_ne (tgt := 23) C dc_O_join_11 (by decide) rfl (fun c4 => ?_) (fun c4 => ?_)
    · refine th_aload_n C dc_O_join_23 rfl rfl ?_
      refine tq_getR C dc_O_join_24 cl_20 fd_O_43 rfl (show 0 < 1 from by omega) rfl ?_
      refine th_iload_n C dc_O_join_27 rfl rfl ?_
      refine tq_ialdE C dc_O_join_28 rfl (fun _ => rfl) (show 0 < 1 from by omega) rfl hun (show un < 5 from by omega) e3 ?_
      refine th_iconst (v := 5) C dc_O_join_29 th_c_5 ?_
      refine tq_icmp_ne (tgt := 48) C dc_O_join_30 (by decide) rfl th_l_5 (fun c6 => ?_) (fun c6 => ?_)
      · refine th_aload_n C dc_O_join_48 rfl rfl ?_
        refine th_iload_n C dc_O_join_49 rfl rfl ?_
        refine tq_callVi C (o_O_isStopped l hl I t tn hI htn (by omega) (by omega)) ok_O_163 cl_20 (show 0 < 1 from by omega) rfl (Nat.le_of_ble_eq_true rfl) dc_O_join_50 rfl (fun x7 I7 p7 => ?_)
        obtain ⟨hI7, p7⟩ := p7
        refine tq_if_ne (tgt := 98) C dc_O_join_53 (by decide) rfl (fun c8 => ?_) (fun c8 => ?_)
        · exact th_vret C hQ dc_O_join_98 (by decide) (by decide) ⟨_, rfl, rfl, hI7, trivial⟩
        · have ej : I7 = I := (p7.resolve_right (fun q => absurd q (by omega))).2
          have s1 : (I7 32 0 tn).toInt = 1 := by rw [ej]; exact hs
          have n46 := ro_no_of hI7.2.2.2.2.1 (show (I7 32 0 tn).toInt ≠ 2 from by omega)
          have n48 := ro_no_of hI7.2.2.2.2.2.1 (show (I7 32 0 tn).toInt ≠ 3 from by omega)
          have n50 := ro_no_of hI7.2.2.2.2.2.2.1 (show (I7 32 0 tn).toInt ≠ 4 from by omega)
          refine th_aload_n C dc_O_join_56 rfl rfl ?_
          refine tq_getR C dc_O_join_57 cl_20 fd_O_67 rfl (show 0 < 1 from by omega) rfl ?_
          refine th_iload_n C dc_O_join_60 rfl rfl ?_
          refine th_iload_n C dc_O_join_61 rfl rfl ?_
          refine tq_iastN C dc_O_join_62 rfl (fun _ => rfl) (show 0 < 1 from by omega) rfl htn (show tn < 5 from by omega) ?_
          refine th_gen (P := fun J => th_OI K sl Z J ∧ J = th_u I7 40 0 tn u) ⟨ro_key40 hI7 n48 n50 (by omega) (by omega), rfl⟩ (fun I9 hI9 => ?_)
          obtain ⟨hI9, u9⟩ := hI9
          have e9 : u = I9 40 0 tn := by rw [u9, th_u_eq]
          have g9 : u.toInt = (I9 40 0 tn).toInt := by rw [← e9]
          have s1 : (I9 32 0 tn).toInt = 1 := by rw [u9, th_u_tag (by decide)]; exact s1
          refine th_aload_n C dc_O_join_63 rfl rfl ?_
          refine tq_getR C dc_O_join_64 cl_20 fd_O_70 rfl (show 0 < 1 from by omega) rfl ?_
          refine th_iload_n C dc_O_join_67 rfl rfl ?_
          refine th_iload_n C dc_O_join_68 rfl rfl ?_
          refine tq_iastN C dc_O_join_69 rfl (fun _ => rfl) (show 0 < 1 from by omega) rfl htn (show tn < 5 from by omega) ?_
          refine th_gen (P := fun J => th_OI K sl Z J ∧ J = th_u I9 41 0 tn s) ⟨ro_put hI9 rfl (show 0 ≤ s.toInt ∧ s.toInt ≤ 3 from by omega), rfl⟩ (fun I10 hI10 => ?_)
          obtain ⟨hI10, u10⟩ := hI10
          have e11 : u = I10 40 0 tn := by rw [u10, th_u_tag (by decide)]; exact e9
          have g11 : u.toInt = (I10 40 0 tn).toInt := by rw [← e11]
          have e10 : s = I10 41 0 tn := by rw [u10, th_u_eq]
          have g10 : s.toInt = (I10 41 0 tn).toInt := by rw [← e10]
          refine th_aload_n C dc_O_join_70 rfl rfl ?_
          refine tq_getR C dc_O_join_71 cl_20 fd_O_43 rfl (show 0 < 1 from by omega) rfl ?_
          refine th_iload_n C dc_O_join_74 rfl rfl ?_
          refine th_iconst (v := 4) C dc_O_join_75 th_c_4 ?_
          have s1 : (I10 32 0 tn).toInt = 1 := by rw [u10, th_u_tag (by decide)]; exact s1
          have n46 := ro_no_of hI10.2.2.2.2.1 (show (I10 32 0 tn).toInt ≠ 2 from by omega)
          have n48 := ro_no_of hI10.2.2.2.2.2.1 (show (I10 32 0 tn).toInt ≠ 3 from by omega)
          have n50 := ro_no_of hI10.2.2.2.2.2.2.1 (show (I10 32 0 tn).toInt ≠ 4 from by omega)
          refine tq_iastN C dc_O_join_76 rfl (fun _ => rfl) (show 0 < 1 from by omega) rfl htn (show tn < 5 from by omega) ?_
          refine th_gen (P := fun J => th_OI K sl Z J ∧ J = th_u I10 32 0 tn ((4 : Int32))) ⟨ro_state hI10 n46 n48 n50 (by have := th_l_4; omega), rfl⟩ (fun I12 hI12 => ?_)
          obtain ⟨hI12, u12⟩ := hI12
          have e13 : u = I12 40 0 tn := by rw [u12, th_u_tag (by decide)]; exact e11
          have g13 : u.toInt = (I12 40 0 tn).toInt := by rw [← e13]
          have e14 : s = I12 41 0 tn := by rw [u12, th_u_tag (by decide)]; exact e10
          have g14 : s.toInt = (I12 41 0 tn).toInt := by rw [← e14]
          have e12 : (4 : Int32) = I12 32 0 tn := by rw [u12, th_u_eq]
          have g12 : 4 = (I12 32 0 tn).toInt := by rw [← e12]; exact th_l_4.symm
          have m48 : ro_no I12 50 51 5 tn := ro_no_upd n50 (fun q => by rw [u12, th_u_tag (by decide)]) (fun q => by rw [u12, th_u_tag (by decide)])
          have hf := ro_full hI12.2.2.2.2.2.2.1 m48 (by omega) (show un < 5 from by omega) (fun k => hI12.1 50 0 k) (hI12.1 51 0 un).2
          have hf0 : 0 ≤ (I12 51 0 un).toInt := (hI12.1 51 0 un).1
          have z40 : (I12 40 0 tn).toInt = (un : Int) := by omega
          have z32 : (I12 32 0 tn).toInt = 4 := by have := th_l_4; omega
          refine th_aload_n C dc_O_join_77 rfl rfl ?_
          refine tq_getR C dc_O_join_78 cl_20 fd_O_98 rfl (show 0 < 1 from by omega) rfl ?_
          refine th_iconst (v := 5) C dc_O_join_81 th_c_5 ?_
          refine th_iload_n C dc_O_join_82 rfl rfl ?_
          refine tq_imul C dc_O_join_83 th_l_5 rfl (fun x15 e15 a15 => ?_)
          refine th_aload_n C dc_O_join_84 rfl rfl ?_
          refine tq_getR C dc_O_join_85 cl_20 fd_O_101 rfl (show 0 < 1 from by omega) rfl ?_
          refine th_iload_n C dc_O_join_88 rfl rfl ?_
          refine th_dup2 C dc_O_join_89 ?_
          refine tq_ialdN C dc_O_join_90 rfl (fun _ => rfl) (show 0 < 1 from by omega) rfl hun (show un < 5 from by omega) (fun x16 e16 => ?_)
          have g16 : x16.toInt = (I12 51 0 un).toInt := by rw [e16]
          have r16 : 0 ≤ x16.toInt ∧ x16.toInt ≤ 5 := by rw [e16]; exact hI12.1 51 0 un
          refine th_dup_x2 C dc_O_join_91 ?_
          refine th_iconst (v := 1) C dc_O_join_92 th_c_1 ?_
          refine tq_iadd C dc_O_join_93 rfl th_l_1 (fun x17 e17 a17 => ?_)
          refine tq_iastN C dc_O_join_94 rfl (fun _ => rfl) (show 0 < 1 from by omega) rfl hun (show un < 5 from by omega) ?_
          refine th_gen (P := fun J => J = th_u I12 51 0 un x17) rfl (fun I18 u18 => ?_)
          have e19 : u = I18 40 0 tn := by rw [u18, th_u_tag (by decide)]; exact e13
          have g19 : u.toInt = (I18 40 0 tn).toInt := by rw [← e19]
          have e20 : s = I18 41 0 tn := by rw [u18, th_u_tag (by decide)]; exact e14
          have g20 : s.toInt = (I18 41 0 tn).toInt := by rw [← e20]
          have e21 : (4 : Int32) = I18 32 0 tn := by rw [u18, th_u_tag (by decide)]; exact e12
          have g21 : (4 : Int32).toInt = (I18 32 0 tn).toInt := by rw [← e21]
          have e18 : x17 = I18 51 0 un := by rw [u18, th_u_eq]
          have g18 : x17.toInt = (I18 51 0 un).toInt := by rw [← e18]
          refine tq_iadd C dc_O_join_95 rfl rfl (fun x22 e22 a22 => ?_)
          refine th_iload_n C dc_O_join_96 rfl rfl ?_
          obtain ⟨n23, m23⟩ := th_nat (a := x22.toInt) (by omega)
          refine tq_iastN C dc_O_join_97 rfl (fun _ => rfl) (show 0 < 1 from by omega) rfl m23 (show n23 < 25 from by omega) ?_
          refine th_gen (P := fun J => th_OI K sl Z J ∧ J = th_u I18 50 0 n23 t) ⟨(by rw [u18]; exact ro_rowJ hI12 (by omega) (by omega) m48 z32 z40 (by omega) (by omega) (by omega)), rfl⟩ (fun I24 hI24 => ?_)
          obtain ⟨hI24, u24⟩ := hI24
          have e25 : u = I24 40 0 tn := by rw [u24, th_u_tag (by decide)]; exact e19
          have g25 : u.toInt = (I24 40 0 tn).toInt := by rw [← e25]
          have e26 : s = I24 41 0 tn := by rw [u24, th_u_tag (by decide)]; exact e20
          have g26 : s.toInt = (I24 41 0 tn).toInt := by rw [← e26]
          have e27 : (4 : Int32) = I24 32 0 tn := by rw [u24, th_u_tag (by decide)]; exact e21
          have g27 : (4 : Int32).toInt = (I24 32 0 tn).toInt := by rw [← e27]
          have e28 : x17 = I24 51 0 un := by rw [u24, th_u_tag (by decide)]; exact e18
          have g28 : x17.toInt = (I24 51 0 un).toInt := by rw [← e28]
          have e24 : t = I24 50 0 n23 := by rw [u24, th_u_eq]
          have g24 : t.toInt = (I24 50 0 n23).toInt := by rw [← e24]
          exact th_vret C hQ dc_O_join_98 (by decide) (by decide) ⟨_, rfl, rfl, hI24, trivial⟩
      · refine th_aload_n C dc_O_join_33 rfl rfl ?_
        refine th_iload_n C dc_O_join_34 rfl rfl ?_
        refine th_iload_n C dc_O_join_35 rfl rfl ?_
        refine th_aload_n C dc_O_join_36 rfl rfl ?_
        refine tq_getR C dc_O_join_37 cl_20 fd_O_49 rfl (show 0 < 1 from by omega) rfl ?_
        refine th_iload_n C dc_O_join_40 rfl rfl ?_
        refine tq_ialdN C dc_O_join_41 rfl (fun _ => rfl) (show 0 < 1 from by omega) rfl hun (show un < 5 from by omega) (fun x29 e29 => ?_)
        have g29 : x29.toInt = (I 34 0 un).toInt := by rw [e29]
        refine tq_callVv C (o_O_put l hl I t s x29 hI (by omega) (by omega)) ok_O_139 cl_20 (show 0 < 1 from by omega) rfl (Nat.le_of_ble_eq_true rfl) dc_O_join_42 rfl (fun I30 p30 => ?_)
        obtain ⟨hI30, p30⟩ := p30
        refine th_goto (tgt := 98) C dc_O_join_45 (by decide) ?_
        exact th_vret C hQ dc_O_join_98 (by decide) (by decide) ⟨_, rfl, rfl, hI30, trivial⟩
    · refine th_aload_n C dc_O_join_14 rfl rfl ?_
      refine th_iload_n C dc_O_join_15 rfl rfl ?_
      refine th_iconst (v := 5) C dc_O_join_16 th_c_5 ?_
      refine tq_callVv C (o_O_error l hl I t ((5 : Int32)) tn hI htn (by have := th_l_5; omega) (by have := th_l_5; omega)) ok_O_160 cl_20 (show 0 < 1 from by omega) rfl (Nat.le_of_ble_eq_true rfl) dc_O_join_17 rfl (fun I31 p31 => ?_)
      obtain ⟨hI31, p31⟩ := p31
      try simp only [th_l_5] at p31
      refine th_goto (tgt := 98) C dc_O_join_20 (by decide) ?_
      exact th_vret C hQ dc_O_join_98 (by decide) (by decide) ⟨_, rfl, rfl, hI31, trivial⟩

