set_option maxRecDepth 100000 in
set_option maxHeartbeats 4000000 in
theorem o_O_goFor (l : Launch) (hl : l.stackTraces = false) {K sl : Int} {Z : th_I} (I : th_I) (t : Int32) (m : Int32) (n : Int32) (tn : Nat) (mn : Nat) (hI : th_OI K sl Z I) (htn : (tn : Int) = t.toInt) (hmn : (mn : Int) = m.toInt) (ht : 0 ≤ t.toInt ∧ t.toInt ≤ 4) (hm : 0 ≤ m.toInt ∧ m.toInt ≤ 2) (h46 : ro_no I 46 47 3 tn) (h48 : ro_no I 48 49 3 tn) (h50 : ro_no I 50 51 5 tn) : th_F l yn_O_goFor cb_O_goFor 4 none { frames := 0, cells := 0, slots := 0, locals := 0 } [.inr (some (20, 0)), .inl t, .inl m, .inl n] (th_m I) (th_rv (fun J => th_OI K sl Z J ∧ (∀ k, J 49 0 k = I 49 0 k))) := by
  refine th_of hl (by decide +kernel) (Nat.le_of_ble_eq_true rfl) (fun z C hQ hN => ?_)
  show th_G l z 4 0 [(0, .inr (some (20, 0))), (1, .inl t), (2, .inl m), (3, .inl n)] [] (th_m I) 0 0
  have hb := hI.2.2.1
  refine th_aload_n C dc_O_goFor_0 rfl rfl ?_
  refine tq_getR C dc_O_goFor_1 cl_20 fd_O_80 rfl (show 0 < 1 from by omega) rfl ?_
  refine th_iload_n C dc_O_goFor_4 rfl rfl ?_
  refine tq_ialdN C dc_O_goFor_5 rfl (fun _ => rfl) (show 0 < 1 from by omega) rfl hmn (show mn < 3 from by omega) (fun x1 e1 => ?_)
  have g1 : x1.toInt = (I 44 0 mn).toInt := by rw [e1]
  refine th_iconst (v := -1) C dc_O_goFor_6 th_c_m1 ?_
  refine tq_icmp_eq (tgt := 20) C dc_O_goFor_7 (by decide) rfl th_l_m1 (fun c2 => ?_) (fun c2 => ?_)
  · refine th_aload_n C dc_O_goFor_20 rfl rfl ?_
    refine tq_getR C dc_O_goFor_21 cl_20 fd_O_80 rfl (show 0 < 1 from by omega) rfl ?_
    refine th_iload_n C dc_O_goFor_24 rfl rfl ?_
    refine th_iload_n C dc_O_goFor_25 rfl rfl ?_
    refine tq_iastN C dc_O_goFor_26 rfl (fun _ => rfl) (show 0 < 1 from by omega) rfl hmn (show mn < 3 from by omega) ?_
    refine th_gen (P := fun J => th_OI K sl Z J ∧ J = th_u I 44 0 mn t) ⟨ro_put hI rfl trivial, rfl⟩ (fun I3 hI3 => ?_)
    obtain ⟨hI3, u3⟩ := hI3
    have e3 : t = I3 44 0 mn := by rw [u3, th_u_eq]
    have g3 : t.toInt = (I3 44 0 mn).toInt := by rw [← e3]
    refine th_aload_n C dc_O_goFor_27 rfl rfl ?_
    refine tq_getR C dc_O_goFor_28 cl_20 fd_O_83 rfl (show 0 < 1 from by omega) rfl ?_
    refine th_iload_n C dc_O_goFor_31 rfl rfl ?_
    refine th_dup2 C dc_O_goFor_32 ?_
    refine tq_ialdN C dc_O_goFor_33 rfl (fun _ => rfl) (show 0 < 1 from by omega) rfl hmn (show mn < 3 from by omega) (fun x4 e4 => ?_)
    have g4 : x4.toInt = (I3 45 0 mn).toInt := by rw [e4]
    refine th_iload_n C dc_O_goFor_34 rfl rfl ?_
    refine tq_iadd C dc_O_goFor_35 rfl rfl (fun x5 e5 a5 => ?_)
    refine tq_iastN C dc_O_goFor_36 rfl (fun _ => rfl) (show 0 < 1 from by omega) rfl hmn (show mn < 3 from by omega) ?_
    refine th_gen (P := fun J => th_OI K sl Z J ∧ J = th_u I3 45 0 mn x5) ⟨ro_put hI3 rfl trivial, rfl⟩ (fun I6 hI6 => ?_)
    obtain ⟨hI6, u6⟩ := hI6
    have e7 : t = I6 44 0 mn := by rw [u6, th_u_tag (by decide)]; exact e3
    have g7 : t.toInt = (I6 44 0 mn).toInt := by rw [← e7]
    have e6 : x5 = I6 45 0 mn := by rw [u6, th_u_eq]
    have g6 : x5.toInt = (I6 45 0 mn).toInt := by rw [← e6]
    refine th_aload_n C dc_O_goFor_37 rfl rfl ?_
    refine tq_getR C dc_O_goFor_38 cl_20 fd_O_43 rfl (show 0 < 1 from by omega) rfl ?_
    refine th_iload_n C dc_O_goFor_41 rfl rfl ?_
    refine th_iconst (v := 1) C dc_O_goFor_42 th_c_1 ?_
    refine tq_iastN C dc_O_goFor_43 rfl (fun _ => rfl) (show 0 < 1 from by omega) rfl htn (show tn < 5 from by omega) ?_
    refine th_gen (P := fun J => th_OI K sl Z J ∧ J = th_u I6 32 0 tn ((1 : Int32))) ⟨ro_state hI6 (ro_no_upd h46 (fun k => by rw [u6, th_u_tag (by decide), u3, th_u_tag (by decide)]) (fun k => by rw [u6, th_u_tag (by decide), u3, th_u_tag (by decide)])) (ro_no_upd h48 (fun k => by rw [u6, th_u_tag (by decide), u3, th_u_tag (by decide)]) (fun k => by rw [u6, th_u_tag (by decide), u3, th_u_tag (by decide)])) (ro_no_upd h50 (fun k => by rw [u6, th_u_tag (by decide), u3, th_u_tag (by decide)]) (fun k => by rw [u6, th_u_tag (by decide), u3, th_u_tag (by decide)])) (by have := th_l_1; omega), rfl⟩ (fun I8 hI8 => ?_)
    obtain ⟨hI8, u8⟩ := hI8
    have e9 : t = I8 44 0 mn := by rw [u8, th_u_tag (by decide)]; exact e7
    have g9 : t.toInt = (I8 44 0 mn).toInt := by rw [← e9]
    have e10 : x5 = I8 45 0 mn := by rw [u8, th_u_tag (by decide)]; exact e6
    have g10 : x5.toInt = (I8 45 0 mn).toInt := by rw [← e10]
    have e8 : (1 : Int32) = I8 32 0 tn := by rw [u8, th_u_eq]
    have g8 : 1 = (I8 32 0 tn).toInt := by rw [← e8]; exact th_l_1.symm
    exact th_vret C hQ dc_O_goFor_44 (by decide) (by decide) ⟨_, rfl, rfl, hI8, fun k => by rw [u8, th_u_tag (by decide), u6, th_u_tag (by decide), u3, th_u_tag (by decide)]⟩
  · refine th_aload_n C dc_O_goFor_10 rfl rfl ?_
    refine tq_getR C dc_O_goFor_11 cl_20 fd_O_80 rfl (show 0 < 1 from by omega) rfl ?_
    refine th_iload_n C dc_O_goFor_14 rfl rfl ?_
    refine tq_ialdE C dc_O_goFor_15 rfl (fun _ => rfl) (show 0 < 1 from by omega) rfl hmn (show mn < 3 from by omega) e1 ?_
    refine th_iload_n C dc_O_goFor_16 rfl rfl ?_
    refine tq_icmp_ne (tgt := 45) C dc_O_goFor_17 (by decide) rfl rfl (fun c12 => ?_) (fun c12 => ?_)
    · refine th_aload_n C dc_O_goFor_45 rfl rfl ?_
      refine tq_getR C dc_O_goFor_46 cl_20 fd_O_61 rfl (show 0 < 1 from by omega) rfl ?_
      refine th_iload_n C dc_O_goFor_49 rfl rfl ?_
      refine th_iload_n C dc_O_goFor_50 rfl rfl ?_
      refine tq_iastN C dc_O_goFor_51 rfl (fun _ => rfl) (show 0 < 1 from by omega) rfl htn (show tn < 5 from by omega) ?_
      refine th_gen (P := fun J => th_OI K sl Z J ∧ J = th_u I 38 0 tn m) ⟨ro_key38 hI h46 (by omega), rfl⟩ (fun I13 hI13 => ?_)
      obtain ⟨hI13, u13⟩ := hI13
      have e14 : x1 = I13 44 0 mn := by rw [u13, th_u_tag (by decide)]; exact e1
      have g14 : x1.toInt = (I13 44 0 mn).toInt := by rw [← e14]
      have e13 : m = I13 38 0 tn := by rw [u13, th_u_eq]
      have g13 : m.toInt = (I13 38 0 tn).toInt := by rw [← e13]
      refine th_aload_n C dc_O_goFor_52 rfl rfl ?_
      refine tq_getR C dc_O_goFor_53 cl_20 fd_O_64 rfl (show 0 < 1 from by omega) rfl ?_
      refine th_iload_n C dc_O_goFor_56 rfl rfl ?_
      refine th_iload_n C dc_O_goFor_57 rfl rfl ?_
      refine tq_iastN C dc_O_goFor_58 rfl (fun _ => rfl) (show 0 < 1 from by omega) rfl htn (show tn < 5 from by omega) ?_
      refine th_gen (P := fun J => th_OI K sl Z J ∧ J = th_u I13 39 0 tn n) ⟨ro_put hI13 rfl trivial, rfl⟩ (fun I15 hI15 => ?_)
      obtain ⟨hI15, u15⟩ := hI15
      have e16 : x1 = I15 44 0 mn := by rw [u15, th_u_tag (by decide)]; exact e14
      have g16 : x1.toInt = (I15 44 0 mn).toInt := by rw [← e16]
      have e17 : m = I15 38 0 tn := by rw [u15, th_u_tag (by decide)]; exact e13
      have g17 : m.toInt = (I15 38 0 tn).toInt := by rw [← e17]
      have e15 : n = I15 39 0 tn := by rw [u15, th_u_eq]
      have g15 : n.toInt = (I15 39 0 tn).toInt := by rw [← e15]
      refine th_aload_n C dc_O_goFor_59 rfl rfl ?_
      refine tq_getR C dc_O_goFor_60 cl_20 fd_O_86 rfl (show 0 < 1 from by omega) rfl ?_
      refine th_iconst (v := 5) C dc_O_goFor_63 th_c_5 ?_
      refine th_iload_n C dc_O_goFor_64 rfl rfl ?_
      refine tq_imul C dc_O_goFor_65 th_l_5 rfl (fun x18 e18 a18 => ?_)
      refine th_aload_n C dc_O_goFor_66 rfl rfl ?_
      refine tq_getR C dc_O_goFor_67 cl_20 fd_O_89 rfl (show 0 < 1 from by omega) rfl ?_
      refine th_iload_n C dc_O_goFor_70 rfl rfl ?_
      refine th_dup2 C dc_O_goFor_71 ?_
      refine tq_ialdN C dc_O_goFor_72 rfl (fun _ => rfl) (show 0 < 1 from by omega) rfl hmn (show mn < 3 from by omega) (fun x19 e19 => ?_)
      have g19 : x19.toInt = (I15 47 0 mn).toInt := by rw [e19]
      have r19 : 0 ≤ x19.toInt ∧ x19.toInt ≤ 5 := by rw [e19]; exact hI15.1 47 0 mn
      refine th_dup_x2 C dc_O_goFor_73 ?_
      have hf := ro_full hI15.2.2.2.2.1 (ro_no_upd h46 (fun k => by rw [u15, th_u_tag (by decide), u13, th_u_tag (by decide)]) (fun k => by rw [u15, th_u_tag (by decide), u13, th_u_tag (by decide)])) (by omega) (show mn < 3 from by omega) (fun k => hI15.1 46 0 k) (hI15.1 47 0 mn).2
      refine th_iconst (v := 1) C dc_O_goFor_74 th_c_1 ?_
      refine tq_iadd C dc_O_goFor_75 rfl th_l_1 (fun x20 e20 a20 => ?_)
      refine tq_iastN C dc_O_goFor_76 rfl (fun _ => rfl) (show 0 < 1 from by omega) rfl hmn (show mn < 3 from by omega) ?_
      refine th_gen (P := fun J => J = th_u I15 47 0 mn x20) rfl (fun I21 u21 => ?_)
      have e22 : x1 = I21 44 0 mn := by rw [u21, th_u_tag (by decide)]; exact e16
      have g22 : x1.toInt = (I21 44 0 mn).toInt := by rw [← e22]
      have e23 : m = I21 38 0 tn := by rw [u21, th_u_tag (by decide)]; exact e17
      have g23 : m.toInt = (I21 38 0 tn).toInt := by rw [← e23]
      have e24 : n = I21 39 0 tn := by rw [u21, th_u_tag (by decide)]; exact e15
      have g24 : n.toInt = (I21 39 0 tn).toInt := by rw [← e24]
      have e21 : x20 = I21 47 0 mn := by rw [u21, th_u_eq]
      have g21 : x20.toInt = (I21 47 0 mn).toInt := by rw [← e21]
      refine tq_iadd C dc_O_goFor_77 rfl rfl (fun x25 e25 a25 => ?_)
      refine th_iload_n C dc_O_goFor_78 rfl rfl ?_
      obtain ⟨n26, m26⟩ := th_nat (a := x25.toInt) (by omega)
      refine tq_iastN C dc_O_goFor_79 rfl (fun _ => rfl) (show 0 < 1 from by omega) rfl m26 (show n26 < 15 from by omega) ?_
      refine th_gen (P := fun J => J = th_u I21 46 0 n26 t) rfl (fun I27 u27 => ?_)
      have e28 : x1 = I27 44 0 mn := by rw [u27, th_u_tag (by decide)]; exact e22
      have g28 : x1.toInt = (I27 44 0 mn).toInt := by rw [← e28]
      have e29 : m = I27 38 0 tn := by rw [u27, th_u_tag (by decide)]; exact e23
      have g29 : m.toInt = (I27 38 0 tn).toInt := by rw [← e29]
      have e30 : n = I27 39 0 tn := by rw [u27, th_u_tag (by decide)]; exact e24
      have g30 : n.toInt = (I27 39 0 tn).toInt := by rw [← e30]
      have e31 : x20 = I27 47 0 mn := by rw [u27, th_u_tag (by decide)]; exact e21
      have g31 : x20.toInt = (I27 47 0 mn).toInt := by rw [← e31]
      have e27 : t = I27 46 0 n26 := by rw [u27, th_u_eq]
      have g27 : t.toInt = (I27 46 0 n26).toInt := by rw [← e27]
      refine th_aload_n C dc_O_goFor_80 rfl rfl ?_
      refine tq_getR C dc_O_goFor_81 cl_20 fd_O_43 rfl (show 0 < 1 from by omega) rfl ?_
      refine th_iload_n C dc_O_goFor_84 rfl rfl ?_
      refine th_iconst (v := 2) C dc_O_goFor_85 th_c_2 ?_
      refine tq_iastN C dc_O_goFor_86 rfl (fun _ => rfl) (show 0 < 1 from by omega) rfl htn (show tn < 5 from by omega) ?_
      refine th_gen (P := fun J => J = th_u I27 32 0 tn ((2 : Int32))) rfl (fun I32 u32 => ?_)
      have e33 : x1 = I32 44 0 mn := by rw [u32, th_u_tag (by decide)]; exact e28
      have g33 : x1.toInt = (I32 44 0 mn).toInt := by rw [← e33]
      have e34 : m = I32 38 0 tn := by rw [u32, th_u_tag (by decide)]; exact e29
      have g34 : m.toInt = (I32 38 0 tn).toInt := by rw [← e34]
      have e35 : n = I32 39 0 tn := by rw [u32, th_u_tag (by decide)]; exact e30
      have g35 : n.toInt = (I32 39 0 tn).toInt := by rw [← e35]
      have e36 : x20 = I32 47 0 mn := by rw [u32, th_u_tag (by decide)]; exact e31
      have g36 : x20.toInt = (I32 47 0 mn).toInt := by rw [← e36]
      have e37 : t = I32 46 0 n26 := by rw [u32, th_u_tag (by decide)]; exact e27
      have g37 : t.toInt = (I32 46 0 n26).toInt := by rw [← e37]
      have e32 : (2 : Int32) = I32 32 0 tn := by rw [u32, th_u_eq]
      have g32 : 2 = (I32 32 0 tn).toInt := by rw [← e32]; exact th_l_2.symm
      exact th_vret C hQ dc_O_goFor_87 (by decide) (by decide) ⟨_, rfl, rfl, (by rw [u32, u27, u21]; exact ro_lockapp hI15 (by omega) (by omega) (ro_no_upd h46 (fun k => by rw [u15, th_u_tag (by decide), u13, th_u_tag (by decide)]) (fun k => by rw [u15, th_u_tag (by decide), u13, th_u_tag (by decide)])) (ro_no_upd h48 (fun k => by rw [u15, th_u_tag (by decide), u13, th_u_tag (by decide)]) (fun k => by rw [u15, th_u_tag (by decide), u13, th_u_tag (by decide)])) (ro_no_upd h50 (fun k => by rw [u15, th_u_tag (by decide), u13, th_u_tag (by decide)]) (fun k => by rw [u15, th_u_tag (by decide), u13, th_u_tag (by decide)])) (by omega) (by omega) (by omega) (by omega) th_l_2), fun k => by rw [u32, th_u_tag (by decide), u27, th_u_tag (by decide), u21, th_u_tag (by decide), u15, th_u_tag (by decide), u13, th_u_tag (by decide)]⟩
    · refine th_aload_n C dc_O_goFor_20 rfl rfl ?_
      refine tq_getR C dc_O_goFor_21 cl_20 fd_O_80 rfl (show 0 < 1 from by omega) rfl ?_
      refine th_iload_n C dc_O_goFor_24 rfl rfl ?_
      refine th_iload_n C dc_O_goFor_25 rfl rfl ?_
      refine tq_iastN C dc_O_goFor_26 rfl (fun _ => rfl) (show 0 < 1 from by omega) rfl hmn (show mn < 3 from by omega) ?_
      refine th_gen (P := fun J => th_OI K sl Z J ∧ J = th_u I 44 0 mn t) ⟨ro_put hI rfl trivial, rfl⟩ (fun I38 hI38 => ?_)
      obtain ⟨hI38, u38⟩ := hI38
      have e38 : t = I38 44 0 mn := by rw [u38, th_u_eq]
      have g38 : t.toInt = (I38 44 0 mn).toInt := by rw [← e38]
      refine th_aload_n C dc_O_goFor_27 rfl rfl ?_
      refine tq_getR C dc_O_goFor_28 cl_20 fd_O_83 rfl (show 0 < 1 from by omega) rfl ?_
      refine th_iload_n C dc_O_goFor_31 rfl rfl ?_
      refine th_dup2 C dc_O_goFor_32 ?_
      refine tq_ialdN C dc_O_goFor_33 rfl (fun _ => rfl) (show 0 < 1 from by omega) rfl hmn (show mn < 3 from by omega) (fun x39 e39 => ?_)
      have g39 : x39.toInt = (I38 45 0 mn).toInt := by rw [e39]
      refine th_iload_n C dc_O_goFor_34 rfl rfl ?_
      refine tq_iadd C dc_O_goFor_35 rfl rfl (fun x40 e40 a40 => ?_)
      refine tq_iastN C dc_O_goFor_36 rfl (fun _ => rfl) (show 0 < 1 from by omega) rfl hmn (show mn < 3 from by omega) ?_
      refine th_gen (P := fun J => th_OI K sl Z J ∧ J = th_u I38 45 0 mn x40) ⟨ro_put hI38 rfl trivial, rfl⟩ (fun I41 hI41 => ?_)
      obtain ⟨hI41, u41⟩ := hI41
      have e42 : t = I41 44 0 mn := by rw [u41, th_u_tag (by decide)]; exact e38
      have g42 : t.toInt = (I41 44 0 mn).toInt := by rw [← e42]
      have e41 : x40 = I41 45 0 mn := by rw [u41, th_u_eq]
      have g41 : x40.toInt = (I41 45 0 mn).toInt := by rw [← e41]
      refine th_aload_n C dc_O_goFor_37 rfl rfl ?_
      refine tq_getR C dc_O_goFor_38 cl_20 fd_O_43 rfl (show 0 < 1 from by omega) rfl ?_
      refine th_iload_n C dc_O_goFor_41 rfl rfl ?_
      refine th_iconst (v := 1) C dc_O_goFor_42 th_c_1 ?_
      refine tq_iastN C dc_O_goFor_43 rfl (fun _ => rfl) (show 0 < 1 from by omega) rfl htn (show tn < 5 from by omega) ?_
      refine th_gen (P := fun J => th_OI K sl Z J ∧ J = th_u I41 32 0 tn ((1 : Int32))) ⟨ro_state hI41 (ro_no_upd h46 (fun k => by rw [u41, th_u_tag (by decide), u38, th_u_tag (by decide)]) (fun k => by rw [u41, th_u_tag (by decide), u38, th_u_tag (by decide)])) (ro_no_upd h48 (fun k => by rw [u41, th_u_tag (by decide), u38, th_u_tag (by decide)]) (fun k => by rw [u41, th_u_tag (by decide), u38, th_u_tag (by decide)])) (ro_no_upd h50 (fun k => by rw [u41, th_u_tag (by decide), u38, th_u_tag (by decide)]) (fun k => by rw [u41, th_u_tag (by decide), u38, th_u_tag (by decide)])) (by have := th_l_1; omega), rfl⟩ (fun I43 hI43 => ?_)
      obtain ⟨hI43, u43⟩ := hI43
      have e44 : t = I43 44 0 mn := by rw [u43, th_u_tag (by decide)]; exact e42
      have g44 : t.toInt = (I43 44 0 mn).toInt := by rw [← e44]
      have e45 : x40 = I43 45 0 mn := by rw [u43, th_u_tag (by decide)]; exact e41
      have g45 : x40.toInt = (I43 45 0 mn).toInt := by rw [← e45]
      have e43 : (1 : Int32) = I43 32 0 tn := by rw [u43, th_u_eq]
      have g43 : 1 = (I43 32 0 tn).toInt := by rw [← e43]; exact th_l_1.symm
      exact th_vret C hQ dc_O_goFor_44 (by decide) (by decide) ⟨_, rfl, rfl, hI43, fun k => by rw [u43, th_u_tag (by decide), u41, th_u_tag (by decide), u38, th_u_tag (by decide)]⟩

