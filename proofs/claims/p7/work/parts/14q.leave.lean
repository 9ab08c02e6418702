set_option maxRecDepth 100000 in
set_option maxHeartbeats 4000000 in
theorem o_O_leaveWait (l : Launch) (hl : l.stackTraces = false) {K sl : Int} {Z : th_I} (I : th_I) (t : Int32) (tn : Nat) (hI : th_OI K sl Z I) (htn : (tn : Int) = t.toInt) (ht : 0 ≤ t.toInt ∧ t.toInt ≤ 4) (hs : (I 32 0 tn).toInt = 3) : th_F l yn_O_leaveWait cb_O_leaveWait 5 none { frames := 1, cells := 0, slots := 0, locals := 23 } [.inr (some (20, 0)), .inl t] (th_m I) (th_rv (fun J => th_OI K sl Z J ∧ (∀ r q : Nat, r < 3 → q < 5 → (q : Int) < (I 49 0 r).toInt → (I 48 0 (5 * r + q)).toInt = (tn : Int) → (J 49 0 r).toInt = (I 49 0 r).toInt - 1))) := by
  refine th_of hl (by decide +kernel) (Nat.le_of_ble_eq_true rfl) (fun z C hQ hN => ?_)
  show th_G l z 5 0 [(0, .inr (some (20, 0))), (1, .inl t)] [] (th_m I) 0 0
  have hb := hI.2.2.1
  refine th_aload_n C dc_O_leaveWait_0 rfl rfl ?_
  refine tq_getR C dc_O_leaveWait_1 cl_20 fd_O_67 rfl (show 0 < 1 from by omega) rfl ?_
  refine th_iload_n C dc_O_leaveWait_4 rfl rfl ?_
  refine tq_ialdN C dc_O_leaveWait_5 rfl (fun _ => rfl) (show 0 < 1 from by omega) rfl htn (show tn < 5 from by omega) (fun x1 e1 => ?_)
  have g1 : x1.toInt = (I 40 0 tn).toInt := by rw [e1]
  have r1 : 0 ≤ x1.toInt ∧ x1.toInt ≤ 4 := by rw [e1]; exact hI.1 40 0 tn
  obtain ⟨cn, hcn⟩ := th_nat (a := x1.toInt) (by omega)
  have hc2 : x1.toInt ≤ 2 := by have := hI.2.2.2.2.2.2.2 tn (by omega) hs; omega
  have q49 : 0 ≤ (I 49 0 cn).toInt ∧ (I 49 0 cn).toInt ≤ 5 := hI.1 49 0 cn
  refine th_istore_n (lv' := [(0, .inr (some (20, 0))), (1, .inl t), (2, .inl x1)]) C dc_O_leaveWait_6 rfl (by decide) rfl ?_
  refine th_iconst (v := 0) C dc_O_leaveWait_7 th_c_0 ?_
  refine th_istore_n (lv' := [(0, .inr (some (20, 0))), (1, .inl t), (2, .inl x1), (3, .inl ((0 : Int32)))]) C dc_O_leaveWait_8 rfl (by decide) rfl ?_
  refine th_iconst (v := 0) C dc_O_leaveWait_9 th_c_0 ?_
  refine th_istore (lv' := [(0, .inr (some (20, 0))), (1, .inl t), (2, .inl x1), (3, .inl ((0 : Int32))), (4, .inl ((0 : Int32)))]) C dc_O_leaveWait_10 (by decide) rfl ?_
  have L12 : ∀ (N : Nat) (n : Int32) (k : Int32) (I2 : th_I), (ro_ct K sl I 48 cn (tn : Int) n.toInt k.toInt I2) → (0 ≤ n.toInt ∧ n.toInt ≤ k.toInt ∧ k.toInt ≤ (I 49 0 cn).toInt) → ((I2 49 0 cn).toInt = (I 49 0 cn).toInt) → (5 - k.toInt).toNat < N → th_G l z 5 12 [(0, .inr (some (20, 0))), (1, .inl t), (2, .inl x1), (3, .inl n), (4, .inl k)] [] (th_m I2) 0 0 := by
    intro N
    induction N with
    | zero => intro n k I2 hI2 h1 h2 hm; exact absurd hm (Nat.not_lt_zero _)
    | succ N ih =>
      intro n k I2 hI2 h1 h2 hm
      refine th_iload C dc_O_leaveWait_12 rfl ?_
      refine th_aload_n C dc_O_leaveWait_14 rfl rfl ?_
      refine tq_getR C dc_O_leaveWait_15 cl_20 fd_O_95 rfl (show 0 < 1 from by omega) rfl ?_
      refine th_iload_n C dc_O_leaveWait_18 rfl rfl ?_
      refine tq_ialdN C dc_O_leaveWait_19 rfl (fun _ => rfl) (show 0 < 1 from by omega) rfl hcn (show cn < 3 from by omega) (fun x3 e3 => ?_)
      have g3 : x3.toInt = (I2 49 0 cn).toInt := by rw [e3]
      have r3 : 0 ≤ x3.toInt ∧ x3.toInt ≤ 5 := by rw [e3]; exact hI2.1 49 0 cn
      refine tq_icmp_ge (tgt := 68) C dc_O_leaveWait_20 (by decide) rfl rfl (fun c4 => ?_) (fun c4 => ?_)
      · refine th_aload_n C dc_O_leaveWait_68 rfl rfl ?_
        refine tq_getR C dc_O_leaveWait_69 cl_20 fd_O_95 rfl (show 0 < 1 from by omega) rfl ?_
        refine th_iload_n C dc_O_leaveWait_72 rfl rfl ?_
        refine th_iload_n C dc_O_leaveWait_73 rfl rfl ?_
        refine tq_iastN C dc_O_leaveWait_74 rfl (fun _ => rfl) (show 0 < 1 from by omega) rfl hcn (show cn < 3 from by omega) ?_
        refine th_gen (P := fun J => th_OI K sl Z J ∧ J = th_u I2 49 0 cn n) ⟨(ro_ctW hI2 hI (by omega) (by omega) (by omega) (by omega)).1, rfl⟩ (fun I5 hI5 => ?_)
        obtain ⟨hI5, u5⟩ := hI5
        have e5 : n = I5 49 0 cn := by rw [u5, th_u_eq]
        have g5 : n.toInt = (I5 49 0 cn).toInt := by rw [← e5]
        have s3 : (I5 32 0 tn).toInt = 3 := by rw [u5, th_u_tag (by decide), hI2.2.1 32 0 tn (by decide)]; exact hs
        have nr : ro_no I5 48 49 3 tn := by rw [u5]; exact (ro_ctW hI2 hI (by omega) (by omega) (by omega) (by omega)).2
        refine th_aload_n C dc_O_leaveWait_75 rfl rfl ?_
        refine th_iload_n C dc_O_leaveWait_76 rfl rfl ?_
        refine th_aload_n C dc_O_leaveWait_77 rfl rfl ?_
        refine tq_getR C dc_O_leaveWait_78 cl_20 fd_O_61 rfl (show 0 < 1 from by omega) rfl ?_
        refine th_iload_n C dc_O_leaveWait_81 rfl rfl ?_
        refine tq_ialdN C dc_O_leaveWait_82 rfl (fun _ => rfl) (show 0 < 1 from by omega) rfl htn (show tn < 5 from by omega) (fun x6 e6 => ?_)
        have g6 : x6.toInt = (I5 38 0 tn).toInt := by rw [e6]
        have r6 : 0 ≤ x6.toInt ∧ x6.toInt ≤ 2 := by rw [e6]; exact hI5.1 38 0 tn
        refine th_aload_n C dc_O_leaveWait_83 rfl rfl ?_
        refine tq_getR C dc_O_leaveWait_84 cl_20 fd_O_64 rfl (show 0 < 1 from by omega) rfl ?_
        refine th_iload_n C dc_O_leaveWait_87 rfl rfl ?_
        refine tq_ialdN C dc_O_leaveWait_88 rfl (fun _ => rfl) (show 0 < 1 from by omega) rfl htn (show tn < 5 from by omega) (fun x7 e7 => ?_)
        have g7 : x7.toInt = (I5 39 0 tn).toInt := by rw [e7]
        obtain ⟨n8, m8⟩ := th_nat (a := x6.toInt) (by omega)
        refine tq_callVv C (o_O_goFor l hl I5 t x6 x7 tn n8 hI5 htn m8 (by omega) (by omega) (ro_no_of hI5.2.2.2.2.1 (by omega)) nr (ro_no_of hI5.2.2.2.2.2.2.1 (by omega))) ok_O_151 cl_20 (show 0 < 1 from by omega) rfl (Nat.le_of_ble_eq_true rfl) dc_O_leaveWait_89 rfl (fun I9 p9 => ?_)
        obtain ⟨hI9, p9⟩ := p9
        exact th_vret C hQ dc_O_leaveWait_92 (by decide) (by decide) ⟨_, rfl, rfl, hI9, (by intro r q hr hq hm' e; have key := (hI.2.2.2.2.2.1.1 r hr q hq hm' tn e).2; have e2 : r = cn := (by omega); rw [e2] at hm' e ⊢; rw [p9, u5, th_u_eq]; have := hI2.2.2.2.2.2.1 q (by omega) e; omega)⟩
      · refine th_aload_n C dc_O_leaveWait_23 rfl rfl ?_
        refine tq_getR C dc_O_leaveWait_24 cl_20 fd_O_92 rfl (show 0 < 1 from by omega) rfl ?_
        refine th_iconst (v := 5) C dc_O_leaveWait_27 th_c_5 ?_
        refine th_iload_n C dc_O_leaveWait_28 rfl rfl ?_
        refine tq_imul C dc_O_leaveWait_29 th_l_5 rfl (fun x10 e10 a10 => ?_)
        refine th_iload C dc_O_leaveWait_30 rfl ?_
        refine tq_iadd C dc_O_leaveWait_32 rfl rfl (fun x11 e11 a11 => ?_)
        obtain ⟨n13, m13⟩ := th_nat (a := x11.toInt) (by omega)
        refine tq_ialdN C dc_O_leaveWait_33 rfl (fun _ => rfl) (show 0 < 1 from by omega) rfl m13 (show n13 < 15 from by omega) (fun x12 e12 => ?_)
        have g12 : x12.toInt = (I2 48 0 n13).toInt := by rw [e12]
        have r12 : 0 ≤ x12.toInt ∧ x12.toInt ≤ 4 := by rw [e12]; exact hI2.1 48 0 n13
        refine th_iload_n C dc_O_leaveWait_34 rfl rfl ?_
        refine tq_icmp_eq (tgt := 62) C dc_O_leaveWait_35 (by decide) rfl rfl (fun c14 => ?_) (fun c14 => ?_)
        · have hsk := ro_ct1 (mt := 49) (b := n13) hI2 hI.2.2.2.2.2.1 (by omega) (by omega) (by omega) (by omega)
          refine tq_iinc (lv' := fun rr => [(0, .inr (some (20, 0))), (1, .inl t), (2, .inl x1), (3, .inl n), (4, .inl rr)]) C dc_O_leaveWait_62 rfl (by decide) th_c_1 rfl th_l_1 (fun rr => rfl) (fun x15 e15 a15 => ?_)
          refine th_goto (tgt := 12) C dc_O_leaveWait_65 (by decide) ?_
          exact ih n x15 I2 (by first | exact ro_ct_eq hI2 (by omega) (by omega) | exact ro_ct_eq hsk (by omega) (by omega)) (by omega) (by omega) (by omega)
        · refine th_aload_n C dc_O_leaveWait_38 rfl rfl ?_
          refine tq_getR C dc_O_leaveWait_39 cl_20 fd_O_92 rfl (show 0 < 1 from by omega) rfl ?_
          refine th_iconst (v := 5) C dc_O_leaveWait_42 th_c_5 ?_
          refine th_iload_n C dc_O_leaveWait_43 rfl rfl ?_
          refine tq_imul C dc_O_leaveWait_44 th_l_5 rfl (fun x16 e16 a16 => ?_)
          refine th_iload_n C dc_O_leaveWait_45 rfl rfl ?_
          refine tq_iinc (lv' := fun rr => [(0, .inr (some (20, 0))), (1, .inl t), (2, .inl x1), (3, .inl rr), (4, .inl k)]) C dc_O_leaveWait_46 rfl (by decide) th_c_1 rfl th_l_1 (fun rr => rfl) (fun x17 e17 a17 => ?_)
          refine tq_iadd C dc_O_leaveWait_49 rfl rfl (fun x18 e18 a18 => ?_)
          refine th_aload_n C dc_O_leaveWait_50 rfl rfl ?_
          refine tq_getR C dc_O_leaveWait_51 cl_20 fd_O_92 rfl (show 0 < 1 from by omega) rfl ?_
          refine th_iconst (v := 5) C dc_O_leaveWait_54 th_c_5 ?_
          refine th_iload_n C dc_O_leaveWait_55 rfl rfl ?_
          refine tq_imul C dc_O_leaveWait_56 th_l_5 rfl (fun x19 e19 a19 => ?_)
          refine th_iload C dc_O_leaveWait_57 rfl ?_
          refine tq_iadd C dc_O_leaveWait_59 rfl rfl (fun x20 e20 a20 => ?_)
          obtain ⟨n22, m22⟩ := th_nat (a := x20.toInt) (by omega)
          refine tq_ialdN C dc_O_leaveWait_60 rfl (fun _ => rfl) (show 0 < 1 from by omega) rfl m22 (show n22 < 15 from by omega) (fun x21 e21 => ?_)
          have g21 : x21.toInt = (I2 48 0 n22).toInt := by rw [e21]
          have r21 : 0 ≤ x21.toInt ∧ x21.toInt ≤ 4 := by rw [e21]; exact hI2.1 48 0 n22
          obtain ⟨n23, m23⟩ := th_nat (a := x18.toInt) (by omega)
          refine tq_iastN C dc_O_leaveWait_61 rfl (fun _ => rfl) (show 0 < 1 from by omega) rfl m23 (show n23 < 15 from by omega) ?_
          refine th_gen (P := fun J => ro_ct K sl I 48 cn (tn : Int) (n.toInt + 1) (k.toInt + 1) J ∧ J = th_u I2 48 0 n23 x21) ⟨ro_ct2 (mt := 49) (b := n22) (b' := n13) (fun _ _ _ h => h) hI2 hI.2.2.2.2.2.1 (by omega) (by omega) (by omega) (by omega) (by omega) e21 (by omega), rfl⟩ (fun I24 hI24 => ?_)
          obtain ⟨hI24, u24⟩ := hI24
          have e25 : x3 = I24 49 0 cn := by rw [u24, th_u_tag (by decide)]; exact e3
          have g25 : x3.toInt = (I24 49 0 cn).toInt := by rw [← e25]
          have e24 : x21 = I24 48 0 n23 := by rw [u24, th_u_eq]
          have g24 : x21.toInt = (I24 48 0 n23).toInt := by rw [← e24]
          refine tq_iinc (lv' := fun rr => [(0, .inr (some (20, 0))), (1, .inl t), (2, .inl x1), (3, .inl x17), (4, .inl rr)]) C dc_O_leaveWait_62 rfl (by decide) th_c_1 rfl th_l_1 (fun rr => rfl) (fun x26 e26 a26 => ?_)
          refine th_goto (tgt := 12) C dc_O_leaveWait_65 (by decide) ?_
          exact ih x17 x26 I24 (by first | exact ro_ct_eq hI24 (by omega) (by omega) | exact ro_ct_eq hsk (by omega) (by omega)) (by omega) (by omega) (by omega)
  exact L12 _ ((0 : Int32)) ((0 : Int32)) I (ro_ct_eq (ro_ct0 hI) th_l_0 th_l_0) (by have := th_l_0; omega) (by have := th_l_0; omega) (Nat.lt_succ_self _)

set_option maxRecDepth 100000 in
set_option maxHeartbeats 4000000 in
theorem o_O_leaveJoin (l : Launch) (hl : l.stackTraces = false) {K sl : Int} {Z : th_I} (I : th_I) (t : Int32) (tn : Nat) (hI : th_OI K sl Z I) (htn : (tn : Int) = t.toInt) (ht : 0 ≤ t.toInt ∧ t.toInt ≤ 4) (hs : (I 32 0 tn).toInt = 4) : th_F l yn_O_leaveJoin cb_O_leaveJoin 5 none { frames := 0, cells := 0, slots := 0, locals := 0 } [.inr (some (20, 0)), .inl t] (th_m I) (th_rv (fun J => th_OI K sl Z J ∧ (True))) := by
  refine th_of hl (by decide +kernel) (Nat.le_of_ble_eq_true rfl) (fun z C hQ hN => ?_)
  show th_G l z 5 0 [(0, .inr (some (20, 0))), (1, .inl t)] [] (th_m I) 0 0
  have hb := hI.2.2.1
  refine th_aload_n C dc_O_leaveJoin_0 rfl rfl ?_
  refine tq_getR C dc_O_leaveJoin_1 cl_20 fd_O_67 rfl (show 0 < 1 from by omega) rfl ?_
  refine th_iload_n C dc_O_leaveJoin_4 rfl rfl ?_
  refine tq_ialdN C dc_O_leaveJoin_5 rfl (fun _ => rfl) (show 0 < 1 from by omega) rfl htn (show tn < 5 from by omega) (fun x1 e1 => ?_)
  have g1 : x1.toInt = (I 40 0 tn).toInt := by rw [e1]
  have r1 : 0 ≤ x1.toInt ∧ x1.toInt ≤ 4 := by rw [e1]; exact hI.1 40 0 tn
  obtain ⟨cn, hcn⟩ := th_nat (a := x1.toInt) (by omega)
  have q49 : 0 ≤ (I 51 0 cn).toInt ∧ (I 51 0 cn).toInt ≤ 5 := hI.1 51 0 cn
  refine th_istore_n (lv' := [(0, .inr (some (20, 0))), (1, .inl t), (2, .inl x1)]) C dc_O_leaveJoin_6 rfl (by decide) rfl ?_
  refine th_iconst (v := 0) C dc_O_leaveJoin_7 th_c_0 ?_
  refine th_istore_n (lv' := [(0, .inr (some (20, 0))), (1, .inl t), (2, .inl x1), (3, .inl ((0 : Int32)))]) C dc_O_leaveJoin_8 rfl (by decide) rfl ?_
  refine th_iconst (v := 0) C dc_O_leaveJoin_9 th_c_0 ?_
  refine th_istore (lv' := [(0, .inr (some (20, 0))), (1, .inl t), (2, .inl x1), (3, .inl ((0 : Int32))), (4, .inl ((0 : Int32)))]) C dc_O_leaveJoin_10 (by decide) rfl ?_
  have L12 : ∀ (N : Nat) (n : Int32) (k : Int32) (I2 : th_I), (ro_ct K sl I 50 cn (tn : Int) n.toInt k.toInt I2) → (0 ≤ n.toInt ∧ n.toInt ≤ k.toInt ∧ k.toInt ≤ (I 51 0 cn).toInt) → ((I2 51 0 cn).toInt = (I 51 0 cn).toInt) → (5 - k.toInt).toNat < N → th_G l z 5 12 [(0, .inr (some (20, 0))), (1, .inl t), (2, .inl x1), (3, .inl n), (4, .inl k)] [] (th_m I2) 0 0 := by
    intro N
    induction N with
    | zero => intro n k I2 hI2 h1 h2 hm; exact absurd hm (Nat.not_lt_zero _)
    | succ N ih =>
      intro n k I2 hI2 h1 h2 hm
      refine th_iload C dc_O_leaveJoin_12 rfl ?_
      refine th_aload_n C dc_O_leaveJoin_14 rfl rfl ?_
      refine tq_getR C dc_O_leaveJoin_15 cl_20 fd_O_101 rfl (show 0 < 1 from by omega) rfl ?_
      refine th_iload_n C dc_O_leaveJoin_18 rfl rfl ?_
      refine tq_ialdN C dc_O_leaveJoin_19 rfl (fun _ => rfl) (show 0 < 1 from by omega) rfl hcn (show cn < 5 from by omega) (fun x3 e3 => ?_)
      have g3 : x3.toInt = (I2 51 0 cn).toInt := by rw [e3]
      have r3 : 0 ≤ x3.toInt ∧ x3.toInt ≤ 5 := by rw [e3]; exact hI2.1 51 0 cn
      refine tq_icmp_ge (tgt := 68) C dc_O_leaveJoin_20 (by decide) rfl rfl (fun c4 => ?_) (fun c4 => ?_)
      · refine th_aload_n C dc_O_leaveJoin_68 rfl rfl ?_
        refine tq_getR C dc_O_leaveJoin_69 cl_20 fd_O_101 rfl (show 0 < 1 from by omega) rfl ?_
        refine th_iload_n C dc_O_leaveJoin_72 rfl rfl ?_
        refine th_iload_n C dc_O_leaveJoin_73 rfl rfl ?_
        refine tq_iastN C dc_O_leaveJoin_74 rfl (fun _ => rfl) (show 0 < 1 from by omega) rfl hcn (show cn < 5 from by omega) ?_
        refine th_gen (P := fun J => th_OI K sl Z J ∧ J = th_u I2 51 0 cn n) ⟨(ro_ctJ hI2 hI (by omega) (by omega) (by omega) (by omega)).1, rfl⟩ (fun I5 hI5 => ?_)
        obtain ⟨hI5, u5⟩ := hI5
        have e5 : n = I5 51 0 cn := by rw [u5, th_u_eq]
        have g5 : n.toInt = (I5 51 0 cn).toInt := by rw [← e5]
        have s3 : (I5 32 0 tn).toInt = 4 := by rw [u5, th_u_tag (by decide), hI2.2.1 32 0 tn (by decide)]; exact hs
        have nr : ro_no I5 50 51 5 tn := by rw [u5]; exact (ro_ctJ hI2 hI (by omega) (by omega) (by omega) (by omega)).2
        refine th_aload_n C dc_O_leaveJoin_75 rfl rfl ?_
        refine tq_getR C dc_O_leaveJoin_76 cl_20 fd_O_43 rfl (show 0 < 1 from by omega) rfl ?_
        refine th_iload_n C dc_O_leaveJoin_79 rfl rfl ?_
        refine th_iconst (v := 1) C dc_O_leaveJoin_80 th_c_1 ?_
        refine tq_iastN C dc_O_leaveJoin_81 rfl (fun _ => rfl) (show 0 < 1 from by omega) rfl htn (show tn < 5 from by omega) ?_
        refine th_gen (P := fun J => th_OI K sl Z J ∧ J = th_u I5 32 0 tn ((1 : Int32))) ⟨ro_state hI5 (ro_no_of hI5.2.2.2.2.1 (by omega)) (ro_no_of hI5.2.2.2.2.2.1 (by omega)) nr (by have := th_l_1; omega), rfl⟩ (fun I6 hI6 => ?_)
        obtain ⟨hI6, u6⟩ := hI6
        have e7 : n = I6 51 0 cn := by rw [u6, th_u_tag (by decide)]; exact e5
        have g7 : n.toInt = (I6 51 0 cn).toInt := by rw [← e7]
        have e6 : (1 : Int32) = I6 32 0 tn := by rw [u6, th_u_eq]
        have g6 : 1 = (I6 32 0 tn).toInt := by rw [← e6]; exact th_l_1.symm
        exact th_vret C hQ dc_O_leaveJoin_82 (by decide) (by decide) ⟨_, rfl, rfl, hI6, trivial⟩
      · refine th_aload_n C dc_O_leaveJoin_23 rfl rfl ?_
        refine tq_getR C dc_O_leaveJoin_24 cl_20 fd_O_98 rfl (show 0 < 1 from by omega) rfl ?_
        refine th_iconst (v := 5) C dc_O_leaveJoin_27 th_c_5 ?_
        refine th_iload_n C dc_O_leaveJoin_28 rfl rfl ?_
        refine tq_imul C dc_O_leaveJoin_29 th_l_5 rfl (fun x8 e8 a8 => ?_)
        refine th_iload C dc_O_leaveJoin_30 rfl ?_
        refine tq_iadd C dc_O_leaveJoin_32 rfl rfl (fun x9 e9 a9 => ?_)
        obtain ⟨n11, m11⟩ := th_nat (a := x9.toInt) (by omega)
        refine tq_ialdN C dc_O_leaveJoin_33 rfl (fun _ => rfl) (show 0 < 1 from by omega) rfl m11 (show n11 < 25 from by omega) (fun x10 e10 => ?_)
        have g10 : x10.toInt = (I2 50 0 n11).toInt := by rw [e10]
        have r10 : 0 ≤ x10.toInt ∧ x10.toInt ≤ 4 := by rw [e10]; exact hI2.1 50 0 n11
        refine th_iload_n C dc_O_leaveJoin_34 rfl rfl ?_
        refine tq_icmp_eq (tgt := 62) C dc_O_leaveJoin_35 (by decide) rfl rfl (fun c12 => ?_) (fun c12 => ?_)
        · have hsk := ro_ct1 (mt := 51) (b := n11) hI2 hI.2.2.2.2.2.2.1 (by omega) (by omega) (by omega) (by omega)
          refine tq_iinc (lv' := fun rr => [(0, .inr (some (20, 0))), (1, .inl t), (2, .inl x1), (3, .inl n), (4, .inl rr)]) C dc_O_leaveJoin_62 rfl (by decide) th_c_1 rfl th_l_1 (fun rr => rfl) (fun x13 e13 a13 => ?_)
          refine th_goto (tgt := 12) C dc_O_leaveJoin_65 (by decide) ?_
          exact ih n x13 I2 (by first | exact ro_ct_eq hI2 (by omega) (by omega) | exact ro_ct_eq hsk (by omega) (by omega)) (by omega) (by omega) (by omega)
        · refine th_aload_n C dc_O_leaveJoin_38 rfl rfl ?_
          refine tq_getR C dc_O_leaveJoin_39 cl_20 fd_O_98 rfl (show 0 < 1 from by omega) rfl ?_
          refine th_iconst (v := 5) C dc_O_leaveJoin_42 th_c_5 ?_
          refine th_iload_n C dc_O_leaveJoin_43 rfl rfl ?_
          refine tq_imul C dc_O_leaveJoin_44 th_l_5 rfl (fun x14 e14 a14 => ?_)
          refine th_iload_n C dc_O_leaveJoin_45 rfl rfl ?_
          refine tq_iinc (lv' := fun rr => [(0, .inr (some (20, 0))), (1, .inl t), (2, .inl x1), (3, .inl rr), (4, .inl k)]) C dc_O_leaveJoin_46 rfl (by decide) th_c_1 rfl th_l_1 (fun rr => rfl) (fun x15 e15 a15 => ?_)
          refine tq_iadd C dc_O_leaveJoin_49 rfl rfl (fun x16 e16 a16 => ?_)
          refine th_aload_n C dc_O_leaveJoin_50 rfl rfl ?_
          refine tq_getR C dc_O_leaveJoin_51 cl_20 fd_O_98 rfl (show 0 < 1 from by omega) rfl ?_
          refine th_iconst (v := 5) C dc_O_leaveJoin_54 th_c_5 ?_
          refine th_iload_n C dc_O_leaveJoin_55 rfl rfl ?_
          refine tq_imul C dc_O_leaveJoin_56 th_l_5 rfl (fun x17 e17 a17 => ?_)
          refine th_iload C dc_O_leaveJoin_57 rfl ?_
          refine tq_iadd C dc_O_leaveJoin_59 rfl rfl (fun x18 e18 a18 => ?_)
          obtain ⟨n20, m20⟩ := th_nat (a := x18.toInt) (by omega)
          refine tq_ialdN C dc_O_leaveJoin_60 rfl (fun _ => rfl) (show 0 < 1 from by omega) rfl m20 (show n20 < 25 from by omega) (fun x19 e19 => ?_)
          have g19 : x19.toInt = (I2 50 0 n20).toInt := by rw [e19]
          have r19 : 0 ≤ x19.toInt ∧ x19.toInt ≤ 4 := by rw [e19]; exact hI2.1 50 0 n20
          obtain ⟨n21, m21⟩ := th_nat (a := x16.toInt) (by omega)
          refine tq_iastN C dc_O_leaveJoin_61 rfl (fun _ => rfl) (show 0 < 1 from by omega) rfl m21 (show n21 < 25 from by omega) ?_
          refine th_gen (P := fun J => ro_ct K sl I 50 cn (tn : Int) (n.toInt + 1) (k.toInt + 1) J ∧ J = th_u I2 50 0 n21 x19) ⟨ro_ct2 (mt := 51) (b := n20) (b' := n11) (fun _ _ _ h => h) hI2 hI.2.2.2.2.2.2.1 (by omega) (by omega) (by omega) (by omega) (by omega) e19 (by omega), rfl⟩ (fun I22 hI22 => ?_)
          obtain ⟨hI22, u22⟩ := hI22
          have e23 : x3 = I22 51 0 cn := by rw [u22, th_u_tag (by decide)]; exact e3
          have g23 : x3.toInt = (I22 51 0 cn).toInt := by rw [← e23]
          have e22 : x19 = I22 50 0 n21 := by rw [u22, th_u_eq]
          have g22 : x19.toInt = (I22 50 0 n21).toInt := by rw [← e22]
          refine tq_iinc (lv' := fun rr => [(0, .inr (some (20, 0))), (1, .inl t), (2, .inl x1), (3, .inl x15), (4, .inl rr)]) C dc_O_leaveJoin_62 rfl (by decide) th_c_1 rfl th_l_1 (fun rr => rfl) (fun x24 e24 a24 => ?_)
          refine th_goto (tgt := 12) C dc_O_leaveJoin_65 (by decide) ?_
          exact ih x15 x24 I22 (by first | exact ro_ct_eq hI22 (by omega) (by omega) | exact ro_ct_eq hsk (by omega) (by omega)) (by omega) (by omega) (by omega)
  exact L12 _ ((0 : Int32)) ((0 : Int32)) I (ro_ct_eq (ro_ct0 hI) th_l_0 th_l_0) (by have := th_l_0; omega) (by have := th_l_0; omega) (Nat.lt_succ_self _)

