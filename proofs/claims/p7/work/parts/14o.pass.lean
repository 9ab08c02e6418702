set_option maxRecDepth 100000 in
set_option maxHeartbeats 4000000 in
theorem o_O_pass (l : Launch) (hl : l.stackTraces = false) {K sl : Int} {Z : th_I} (I : th_I) (m : Int32) (mn : Nat) (hI : th_OI K sl Z I) (hmn : (mn : Int) = m.toInt) (hm : 0 ≤ m.toInt ∧ m.toInt ≤ 2) : th_F l yn_O_pass cb_O_pass 4 none { frames := 0, cells := 0, slots := 0, locals := 0 } [.inr (some (20, 0)), .inl m] (th_m I) (th_rv (fun J => th_OI K sl Z J ∧ (∀ e, J 32 0 e = I 32 0 e ∨ (J 32 0 e).toInt = 1))) := by
  refine th_of hl (by decide +kernel) (Nat.le_of_ble_eq_true rfl) (fun z C hQ hN => ?_)
  show th_G l z 4 0 [(0, .inr (some (20, 0))), (1, .inl m)] [] (th_m I) 0 0
  have hb := hI.2.2.1
  have q47 : 0 ≤ (I 47 0 mn).toInt ∧ (I 47 0 mn).toInt ≤ 5 := hI.1 47 0 mn
  refine th_aload_n C dc_O_pass_0 rfl rfl ?_
  refine tq_getR C dc_O_pass_1 cl_20 fd_O_80 rfl (show 0 < 1 from by omega) rfl ?_
  refine th_iload_n C dc_O_pass_4 rfl rfl ?_
  refine th_iconst (v := -1) C dc_O_pass_5 th_c_m1 ?_
  refine tq_iastN C dc_O_pass_6 rfl (fun _ => rfl) (show 0 < 1 from by omega) rfl hmn (show mn < 3 from by omega) ?_
  refine th_gen (P := fun J => th_OI K sl Z J ∧ J = th_u I 44 0 mn ((-1 : Int32))) ⟨ro_put hI rfl trivial, rfl⟩ (fun I1 hI1 => ?_)
  obtain ⟨hI1, u1⟩ := hI1
  have e1 : (-1 : Int32) = I1 44 0 mn := by rw [u1, th_u_eq]
  have g1 : -1 = (I1 44 0 mn).toInt := by rw [← e1]; exact th_l_m1.symm
  refine th_aload_n C dc_O_pass_7 rfl rfl ?_
  refine tq_getR C dc_O_pass_8 cl_20 fd_O_83 rfl (show 0 < 1 from by omega) rfl ?_
  refine th_iload_n C dc_O_pass_11 rfl rfl ?_
  refine th_iconst (v := 0) C dc_O_pass_12 th_c_0 ?_
  refine tq_iastN C dc_O_pass_13 rfl (fun _ => rfl) (show 0 < 1 from by omega) rfl hmn (show mn < 3 from by omega) ?_
  refine th_gen (P := fun J => th_OI K sl Z J ∧ J = th_u I1 45 0 mn ((0 : Int32))) ⟨ro_put hI1 rfl trivial, rfl⟩ (fun I2 hI2 => ?_)
  obtain ⟨hI2, u2⟩ := hI2
  have e3 : (-1 : Int32) = I2 44 0 mn := by rw [u2, th_u_tag (by decide)]; exact e1
  have g3 : (-1 : Int32).toInt = (I2 44 0 mn).toInt := by rw [← e3]
  have e2 : (0 : Int32) = I2 45 0 mn := by rw [u2, th_u_eq]
  have g2 : 0 = (I2 45 0 mn).toInt := by rw [← e2]; exact th_l_0.symm
  refine th_aload_n C dc_O_pass_14 rfl rfl ?_
  have a47 : (I2 47 0 mn).toInt = (I 47 0 mn).toInt := by rw [u2, th_u_tag (by decide), u1, th_u_tag (by decide)]
  refine tq_getR C dc_O_pass_15 cl_20 fd_O_89 rfl (show 0 < 1 from by omega) rfl ?_
  refine th_iload_n C dc_O_pass_18 rfl rfl ?_
  refine tq_ialdN C dc_O_pass_19 rfl (fun _ => rfl) (show 0 < 1 from by omega) rfl hmn (show mn < 3 from by omega) (fun x4 e4 => ?_)
  have g4 : x4.toInt = (I2 47 0 mn).toInt := by rw [e4]
  have r4 : 0 ≤ x4.toInt ∧ x4.toInt ≤ 5 := by rw [e4]; exact hI2.1 47 0 mn
  refine tq_if_ne (tgt := 24) C dc_O_pass_20 (by decide) rfl (fun c5 => ?_) (fun c5 => ?_)
  · refine th_aload_n C dc_O_pass_24 rfl rfl ?_
    refine tq_getR C dc_O_pass_25 cl_20 fd_O_86 rfl (show 0 < 1 from by omega) rfl ?_
    refine th_iconst (v := 5) C dc_O_pass_28 th_c_5 ?_
    refine th_iload_n C dc_O_pass_29 rfl rfl ?_
    refine tq_imul C dc_O_pass_30 th_l_5 rfl (fun x6 e6 a6 => ?_)
    obtain ⟨n8, m8⟩ := th_nat (a := x6.toInt) (by omega)
    refine tq_ialdN C dc_O_pass_31 rfl (fun _ => rfl) (show 0 < 1 from by omega) rfl m8 (show n8 < 15 from by omega) (fun x7 e7 => ?_)
    have g7 : x7.toInt = (I2 46 0 n8).toInt := by rw [e7]
    have r7 : 0 ≤ x7.toInt ∧ x7.toInt ≤ 4 := by rw [e7]; exact hI2.1 46 0 n8
    have a46 : x7.toInt = (I 46 0 (5 * mn)).toInt := by have q : n8 = 5 * mn := (by omega); rw [← q, show I 46 0 n8 = I2 46 0 n8 from by rw [u2, th_u_tag (by decide), u1, th_u_tag (by decide)]]; omega
    refine th_istore_n (lv' := [(0, .inr (some (20, 0))), (1, .inl m), (2, .inl x7)]) C dc_O_pass_32 rfl (by decide) rfl ?_
    refine th_aload_n C dc_O_pass_33 rfl rfl ?_
    refine tq_getR C dc_O_pass_34 cl_20 fd_O_89 rfl (show 0 < 1 from by omega) rfl ?_
    refine th_iload_n C dc_O_pass_37 rfl rfl ?_
    refine th_dup2 C dc_O_pass_38 ?_
    refine tq_ialdE C dc_O_pass_39 rfl (fun _ => rfl) (show 0 < 1 from by omega) rfl hmn (show mn < 3 from by omega) e4 ?_
    refine th_iconst (v := 1) C dc_O_pass_40 th_c_1 ?_
    refine tq_isub C dc_O_pass_41 rfl th_l_1 (fun x10 e10 a10 => ?_)
    refine tq_iastN C dc_O_pass_42 rfl (fun _ => rfl) (show 0 < 1 from by omega) rfl hmn (show mn < 3 from by omega) ?_
    refine th_gen (P := fun J => ro_ps K sl Z I mn 0 J ∧ J = th_u I2 47 0 mn x10) ⟨ro_ps0 hI2 (fun t q ht _ => by rw [u2, th_u_tag (ro_tag_ne rfl ht), u1, th_u_tag (ro_tag_ne rfl ht)]) (by omega) (by omega), rfl⟩ (fun I11 hI11 => ?_)
    obtain ⟨hI11, u11⟩ := hI11
    have e12 : (-1 : Int32) = I11 44 0 mn := by rw [u11, th_u_tag (by decide)]; exact e3
    have g12 : (-1 : Int32).toInt = (I11 44 0 mn).toInt := by rw [← e12]
    have e13 : (0 : Int32) = I11 45 0 mn := by rw [u11, th_u_tag (by decide)]; exact e2
    have g13 : (0 : Int32).toInt = (I11 45 0 mn).toInt := by rw [← e13]
    have e14 : x7 = I11 46 0 n8 := by rw [u11, th_u_tag (by decide)]; exact e7
    have g14 : x7.toInt = (I11 46 0 n8).toInt := by rw [← e14]
    have e11 : x10 = I11 47 0 mn := by rw [u11, th_u_eq]
    have g11 : x10.toInt = (I11 47 0 mn).toInt := by rw [← e11]
    refine th_iconst (v := 0) C dc_O_pass_43 th_c_0 ?_
    refine th_istore_n (lv' := [(0, .inr (some (20, 0))), (1, .inl m), (2, .inl x7), (3, .inl ((0 : Int32)))]) C dc_O_pass_44 rfl (by decide) rfl ?_
    have L45 : ∀ (N : Nat) (k : Int32) (I15 : th_I), (ro_ps K sl Z I mn k.toInt I15) → (0 ≤ k.toInt ∧ k.toInt ≤ (I15 47 0 mn).toInt) → ((I15 47 0 mn).toInt = (I 47 0 mn).toInt - 1) → (5 - k.toInt).toNat < N → th_G l z 4 45 [(0, .inr (some (20, 0))), (1, .inl m), (2, .inl x7), (3, .inl k)] [] (th_m I15) 0 0 := by
      intro N
      induction N with
      | zero => intro k I15 hI15 h1 h2 hm; exact absurd hm (Nat.not_lt_zero _)
      | succ N ih =>
        intro k I15 hI15 h1 h2 hm
        refine th_iload_n C dc_O_pass_45 rfl rfl ?_
        refine th_aload_n C dc_O_pass_46 rfl rfl ?_
        refine tq_getR C dc_O_pass_47 cl_20 fd_O_89 rfl (show 0 < 1 from by omega) rfl ?_
        refine th_iload_n C dc_O_pass_50 rfl rfl ?_
        refine tq_ialdN C dc_O_pass_51 rfl (fun _ => rfl) (show 0 < 1 from by omega) rfl hmn (show mn < 3 from by omega) (fun x16 e16 => ?_)
        have g16 : x16.toInt = (I15 47 0 mn).toInt := by rw [e16]
        have r16 : 0 ≤ x16.toInt ∧ x16.toInt ≤ 5 := by rw [e16]; exact hI15.1 47 0 mn
        refine tq_icmp_ge (tgt := 83) C dc_O_pass_52 (by decide) rfl rfl (fun c17 => ?_) (fun c17 => ?_)
        · refine th_aload_n C dc_O_pass_83 rfl rfl ?_
          refine tq_getR C dc_O_pass_84 cl_20 fd_O_80 rfl (show 0 < 1 from by omega) rfl ?_
          refine th_iload_n C dc_O_pass_87 rfl rfl ?_
          refine th_iload_n C dc_O_pass_88 rfl rfl ?_
          refine tq_iastN C dc_O_pass_89 rfl (fun _ => rfl) (show 0 < 1 from by omega) rfl hmn (show mn < 3 from by omega) ?_
          refine th_gen (P := fun J => ro_ps K sl Z I mn k.toInt J ∧ J = th_u I15 44 0 mn x7) ⟨ro_psput hI15 rfl trivial, rfl⟩ (fun I18 hI18 => ?_)
          obtain ⟨hI18, u18⟩ := hI18
          have e19 : x16 = I18 47 0 mn := by rw [u18, th_u_tag (by decide)]; exact e16
          have g19 : x16.toInt = (I18 47 0 mn).toInt := by rw [← e19]
          have e18 : x7 = I18 44 0 mn := by rw [u18, th_u_eq]
          have g18 : x7.toInt = (I18 44 0 mn).toInt := by rw [← e18]
          refine th_aload_n C dc_O_pass_90 rfl rfl ?_
          refine tq_getR C dc_O_pass_91 cl_20 fd_O_83 rfl (show 0 < 1 from by omega) rfl ?_
          refine th_iload_n C dc_O_pass_94 rfl rfl ?_
          refine th_aload_n C dc_O_pass_95 rfl rfl ?_
          refine tq_getR C dc_O_pass_96 cl_20 fd_O_64 rfl (show 0 < 1 from by omega) rfl ?_
          refine th_iload_n C dc_O_pass_99 rfl rfl ?_
          obtain ⟨n21, m21⟩ := th_nat (a := x7.toInt) (by omega)
          refine tq_ialdN C dc_O_pass_100 rfl (fun _ => rfl) (show 0 < 1 from by omega) rfl m21 (show n21 < 5 from by omega) (fun x20 e20 => ?_)
          have g20 : x20.toInt = (I18 39 0 n21).toInt := by rw [e20]
          refine tq_iastN C dc_O_pass_101 rfl (fun _ => rfl) (show 0 < 1 from by omega) rfl hmn (show mn < 3 from by omega) ?_
          refine th_gen (P := fun J => ro_ps K sl Z I mn k.toInt J ∧ J = th_u I18 45 0 mn x20) ⟨ro_psput hI18 rfl trivial, rfl⟩ (fun I22 hI22 => ?_)
          obtain ⟨hI22, u22⟩ := hI22
          have e23 : x16 = I22 47 0 mn := by rw [u22, th_u_tag (by decide)]; exact e19
          have g23 : x16.toInt = (I22 47 0 mn).toInt := by rw [← e23]
          have e24 : x7 = I22 44 0 mn := by rw [u22, th_u_tag (by decide)]; exact e18
          have g24 : x7.toInt = (I22 44 0 mn).toInt := by rw [← e24]
          have e25 : x20 = I22 39 0 n21 := by rw [u22, th_u_tag (by decide)]; exact e20
          have g25 : x20.toInt = (I22 39 0 n21).toInt := by rw [← e25]
          have e22 : x20 = I22 45 0 mn := by rw [u22, th_u_eq]
          have g22 : x20.toInt = (I22 45 0 mn).toInt := by rw [← e22]
          refine th_aload_n C dc_O_pass_102 rfl rfl ?_
          refine tq_getR C dc_O_pass_103 cl_20 fd_O_43 rfl (show 0 < 1 from by omega) rfl ?_
          refine th_iload_n C dc_O_pass_106 rfl rfl ?_
          refine th_iconst (v := 1) C dc_O_pass_107 th_c_1 ?_
          refine tq_iastN C dc_O_pass_108 rfl (fun _ => rfl) (show 0 < 1 from by omega) rfl m21 (show n21 < 5 from by omega) ?_
          refine th_gen (P := fun J => th_OI K sl Z J ∧ J = th_u I22 32 0 n21 ((1 : Int32))) ⟨ro_psend hI22 hI (by omega) (by omega) (by omega) (by omega) (by omega) th_l_1, rfl⟩ (fun I26 hI26 => ?_)
          obtain ⟨hI26, u26⟩ := hI26
          have e27 : x16 = I26 47 0 mn := by rw [u26, th_u_tag (by decide)]; exact e23
          have g27 : x16.toInt = (I26 47 0 mn).toInt := by rw [← e27]
          have e28 : x7 = I26 44 0 mn := by rw [u26, th_u_tag (by decide)]; exact e24
          have g28 : x7.toInt = (I26 44 0 mn).toInt := by rw [← e28]
          have e29 : x20 = I26 39 0 n21 := by rw [u26, th_u_tag (by decide)]; exact e25
          have g29 : x20.toInt = (I26 39 0 n21).toInt := by rw [← e29]
          have e30 : x20 = I26 45 0 mn := by rw [u26, th_u_tag (by decide)]; exact e22
          have g30 : x20.toInt = (I26 45 0 mn).toInt := by rw [← e30]
          have e26 : (1 : Int32) = I26 32 0 n21 := by rw [u26, th_u_eq]
          have g26 : 1 = (I26 32 0 n21).toInt := by rw [← e26]; exact th_l_1.symm
          exact th_vret C hQ dc_O_pass_109 (by decide) (by decide) ⟨_, rfl, rfl, hI26, (by rw [u26]; exact ro_pspost hI22 th_l_1)⟩
        · refine th_aload_n C dc_O_pass_55 rfl rfl ?_
          refine tq_getR C dc_O_pass_56 cl_20 fd_O_86 rfl (show 0 < 1 from by omega) rfl ?_
          refine th_iconst (v := 5) C dc_O_pass_59 th_c_5 ?_
          refine th_iload_n C dc_O_pass_60 rfl rfl ?_
          refine tq_imul C dc_O_pass_61 th_l_5 rfl (fun x31 e31 a31 => ?_)
          refine th_iload_n C dc_O_pass_62 rfl rfl ?_
          refine tq_iadd C dc_O_pass_63 rfl rfl (fun x32 e32 a32 => ?_)
          refine th_aload_n C dc_O_pass_64 rfl rfl ?_
          refine tq_getR C dc_O_pass_65 cl_20 fd_O_86 rfl (show 0 < 1 from by omega) rfl ?_
          refine th_iconst (v := 5) C dc_O_pass_68 th_c_5 ?_
          refine th_iload_n C dc_O_pass_69 rfl rfl ?_
          refine tq_imul C dc_O_pass_70 th_l_5 rfl (fun x33 e33 a33 => ?_)
          refine th_iload_n C dc_O_pass_71 rfl rfl ?_
          refine tq_iadd C dc_O_pass_72 rfl rfl (fun x34 e34 a34 => ?_)
          refine th_iconst (v := 1) C dc_O_pass_73 th_c_1 ?_
          refine tq_iadd C dc_O_pass_74 rfl th_l_1 (fun x35 e35 a35 => ?_)
          obtain ⟨n37, m37⟩ := th_nat (a := x35.toInt) (by omega)
          refine tq_ialdN C dc_O_pass_75 rfl (fun _ => rfl) (show 0 < 1 from by omega) rfl m37 (show n37 < 15 from by omega) (fun x36 e36 => ?_)
          have g36 : x36.toInt = (I15 46 0 n37).toInt := by rw [e36]
          have r36 : 0 ≤ x36.toInt ∧ x36.toInt ≤ 4 := by rw [e36]; exact hI15.1 46 0 n37
          obtain ⟨n38, m38⟩ := th_nat (a := x32.toInt) (by omega)
          refine tq_iastN C dc_O_pass_76 rfl (fun _ => rfl) (show 0 < 1 from by omega) rfl m38 (show n38 < 15 from by omega) ?_
          refine th_gen (P := fun J => ro_ps K sl Z I mn (k.toInt + 1) J ∧ J = th_u I15 46 0 n38 x36) ⟨ro_ps1 (b := n37) hI15 (by omega) (by omega) (by omega) e36, rfl⟩ (fun I39 hI39 => ?_)
          obtain ⟨hI39, u39⟩ := hI39
          have e40 : x16 = I39 47 0 mn := by rw [u39, th_u_tag (by decide)]; exact e16
          have g40 : x16.toInt = (I39 47 0 mn).toInt := by rw [← e40]
          have e39 : x36 = I39 46 0 n38 := by rw [u39, th_u_eq]
          have g39 : x36.toInt = (I39 46 0 n38).toInt := by rw [← e39]
          refine tq_iinc (lv' := fun rr => [(0, .inr (some (20, 0))), (1, .inl m), (2, .inl x7), (3, .inl rr)]) C dc_O_pass_77 rfl (by decide) th_c_1 rfl th_l_1 (fun rr => rfl) (fun x41 e41 a41 => ?_)
          refine th_goto (tgt := 45) C dc_O_pass_80 (by decide) ?_
          exact ih x41 I39 (ro_ps_eq hI39 (by omega)) (by omega) (by omega) (by omega)
    exact L45 _ ((0 : Int32)) I11 (ro_ps_eq hI11 th_l_0) (by have := th_l_0; omega) (by have := th_l_0; omega) (Nat.lt_succ_self _)
  · exact th_vret C hQ dc_O_pass_23 (by decide) (by decide) ⟨_, rfl, rfl, hI2, fun e => Or.inl (by rw [u2, th_u_tag (by decide), u1, th_u_tag (by decide)])⟩

