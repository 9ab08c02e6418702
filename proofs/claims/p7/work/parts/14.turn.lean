set_option maxRecDepth 100000 in
set_option maxHeartbeats 4000000 in
theorem c_H_runHooks (l : Launch) (hl : l.stackTraces = false) {K sl : Int} {Z : th_I} (I : th_I) (i : Nat) (hI : th_Inv K sl Z I) (hi : i < 5) : th_F l yn_H_runHooks cb_H_runHooks 5 none { frames := 2, cells := 0, slots := 0, locals := 46 } [.inr (some (0, 0)), .inr (some (6, i))] (th_m I) (th_rv (fun J => th_Inv K sl Z J ∧ (True))) := by
  refine th_of hl (by decide +kernel) (Nat.le_of_ble_eq_true rfl) (fun z C hQ hN => ?_)
  show th_G l z 5 0 [(0, .inr (some (0, 0))), (1, .inr (some (6, i)))] [] (th_m I) 0 0
  have hb := hI.2.2.1
  have hlp := th_lp_le (2 * i + 1)
  refine th_aload_n C dc_H_runHooks_0 rfl rfl ?_
  refine tq_getR C dc_H_runHooks_1 cl_6 fd_H_122 rfl (show i < 5 from by omega) rfl ?_
  refine th_astore_n (lv' := [(0, .inr (some (0, 0))), (1, .inr (some (6, i))), (2, .inr (some (11, 2 * i + 1)))]) C dc_H_runHooks_4 rfl (by decide) rfl ?_
  refine th_aload_n C dc_H_runHooks_5 rfl rfl ?_
  refine tq_getI C dc_H_runHooks_6 cl_11 fd_H_119 rfl (show 2 * i + 1 < 10 from by omega) (fun x1 e1 => ?_)
  have g1 : x1.toInt = (I 11 (2 * i + 1) 2).toInt := by rw [e1]
  have r1 : 0 ≤ x1.toInt ∧ x1.toInt ≤ (th_lp (2 * i + 1) : Int) := by rw [e1]; exact hI.1 11 (2 * i + 1) 2
  refine th_iconst (v := 1) C dc_H_runHooks_9 th_c_1 ?_
  refine tq_isub C dc_H_runHooks_10 rfl th_l_1 (fun x2 e2 a2 => ?_)
  refine th_istore_n (lv' := [(0, .inr (some (0, 0))), (1, .inr (some (6, i))), (2, .inr (some (11, 2 * i + 1))), (3, .inl x2)]) C dc_H_runHooks_11 rfl (by decide) rfl ?_
  have L12 : ∀ (N : Nat) (k : Int32) (I3 : th_I), (th_Inv K sl Z I3) → (-1 ≤ k.toInt ∧ k.toInt < (th_lp (2 * i + 1) : Int) ∧ k.toInt ≤ 12) → (k.toInt + 1).toNat < N → th_G l z 5 12 [(0, .inr (some (0, 0))), (1, .inr (some (6, i))), (2, .inr (some (11, 2 * i + 1))), (3, .inl k)] [] (th_m I3) 0 0 := by
    intro N
    induction N with
    | zero => intro k I3 hI3 h1 hm; exact absurd hm (Nat.not_lt_zero _)
    | succ N ih =>
      intro k I3 hI3 h1 hm
      refine th_iload_n C dc_H_runHooks_12 rfl rfl ?_
      refine tq_if_lt (tgt := 51) C dc_H_runHooks_13 (by decide) rfl (fun c4 => ?_) (fun c4 => ?_)
      · exact th_vret C hQ dc_H_runHooks_51 (by decide) (by decide) ⟨_, rfl, rfl, hI3, trivial⟩
      · refine th_aload_n C dc_H_runHooks_16 rfl rfl ?_
        refine tq_getR C dc_H_runHooks_17 cl_11 fd_H_310 rfl (show 2 * i + 1 < 10 from by omega) rfl ?_
        refine th_iload_n C dc_H_runHooks_20 rfl rfl ?_
        obtain ⟨n6, m6⟩ := th_nat (a := k.toInt) (by omega)
        refine tq_ialdN C dc_H_runHooks_21 rfl (fun _ => rfl) (show 2 * i + 1 < 10 from by omega) rfl m6 (show n6 < th_lp (2 * i + 1) from by omega) (fun x5 e5 => ?_)
        have g5 : x5.toInt = (I3 12 (2 * i + 1) n6).toInt := by rw [e5]
        have r5 : 0 ≤ x5.toInt ∧ x5.toInt ≤ 3 := by rw [e5]; exact hI3.1 12 (2 * i + 1) n6
        refine th_istore (lv' := [(0, .inr (some (0, 0))), (1, .inr (some (6, i))), (2, .inr (some (11, 2 * i + 1))), (3, .inl k), (4, .inl x5)]) C dc_H_runHooks_22 (by decide) rfl ?_
        refine th_aload_n C dc_H_runHooks_24 rfl rfl ?_
        refine th_aload_n C dc_H_runHooks_25 rfl rfl ?_
        refine th_iload C dc_H_runHooks_26 rfl ?_
        refine th_aload_n C dc_H_runHooks_28 rfl rfl ?_
        refine th_aload_n C dc_H_runHooks_29 rfl rfl ?_
        refine th_iload C dc_H_runHooks_30 rfl ?_
        refine tq_callVp C (c_H_read l hl I3 i x5 hI3 (by omega) (by omega)) ok_H_102 cl_0 (show 0 < 1 from by omega) rfl (Nat.le_of_ble_eq_true rfl) dc_H_runHooks_32 rfl (fun x7 p7 => ?_)
        refine th_aload_n C dc_H_runHooks_35 rfl rfl ?_
        refine tq_getR C dc_H_runHooks_36 cl_11 fd_H_255 rfl (show 2 * i + 1 < 10 from by omega) rfl ?_
        refine th_iload_n C dc_H_runHooks_39 rfl rfl ?_
        refine tq_ialdN C dc_H_runHooks_40 rfl (fun _ => rfl) (show 2 * i + 1 < 10 from by omega) rfl m6 (show n6 < th_lp (2 * i + 1) from by omega) (fun x8 e8 => ?_)
        have g8 : x8.toInt = (I3 13 (2 * i + 1) n6).toInt := by rw [e8]
        refine tq_iadd C dc_H_runHooks_41 rfl rfl (fun x9 e9 a9 => ?_)
        refine tq_callVv C (c_H_write l hl I3 i x5 x9 hI3 (by omega) (by omega)) ok_H_205 cl_0 (show 0 < 1 from by omega) rfl (Nat.le_of_ble_eq_true rfl) dc_H_runHooks_42 rfl (fun I10 p10 => ?_)
        obtain ⟨hI10, p10⟩ := p10
        refine tq_iinc (lv' := fun rr => [(0, .inr (some (0, 0))), (1, .inr (some (6, i))), (2, .inr (some (11, 2 * i + 1))), (3, .inl rr), (4, .inl x5)]) C dc_H_runHooks_45 rfl (by decide) th_c_m1 rfl th_l_m1 (fun rr => rfl) (fun x11 e11 a11 => ?_)
        refine th_goto (tgt := 12) C dc_H_runHooks_48 (by decide) ?_
        refine th_sub C (lv' := [(0, .inr (some (0, 0))), (1, .inr (some (6, i))), (2, .inr (some (11, 2 * i + 1))), (3, .inl x11)]) (fun q hq => by simp at hq ⊢; rcases hq with rfl | rfl | rfl | rfl <;> simp) ?_
        exact ih x11 I10 hI10 (by omega) (by omega)
  exact L12 _ x2 I hI (by omega) (Nat.lt_succ_self _)

set_option maxRecDepth 100000 in
set_option maxHeartbeats 4000000 in
theorem c_H_wakeJoiners (l : Launch) (hl : l.stackTraces = false) {K sl : Int} {Z : th_I} (I : th_I) (i : Nat) (hI : th_Inv K sl Z I) (hi : i < 5) : th_F l yn_H_wakeJoiners cb_H_wakeJoiners 4 none { frames := 2, cells := 0, slots := 0, locals := 46 } [.inr (some (0, 0)), .inr (some (6, i))] (th_m I) (th_rv (fun J => th_Inv K sl Z J ∧ (True))) := by
  refine th_of hl (by decide +kernel) (Nat.le_of_ble_eq_true rfl) (fun z C hQ hN => ?_)
  show th_G l z 4 0 [(0, .inr (some (0, 0))), (1, .inr (some (6, i)))] [] (th_m I) 0 0
  have hb := hI.2.2.1
  refine th_aload_n C dc_H_wakeJoiners_0 rfl rfl ?_
  refine tq_getR C dc_H_wakeJoiners_1 cl_6 fd_H_138 rfl (show i < 5 from by omega) rfl ?_
  refine tq_getI C dc_H_wakeJoiners_4 cl_14 fd_H_142 rfl (show i < 11 from by omega) (fun x1 e1 => ?_)
  have g1 : x1.toInt = (I 14 i 1).toInt := by rw [e1]
  have r1 : 0 ≤ x1.toInt ∧ x1.toInt ≤ 5 := by rw [e1]; exact hI.1 14 i 1
  refine th_istore_n (lv' := [(0, .inr (some (0, 0))), (1, .inr (some (6, i))), (2, .inl x1)]) C dc_H_wakeJoiners_7 rfl (by decide) rfl ?_
  have L8 : ∀ (N : Nat) (k : Int32) (I2 : th_I), (th_Inv K sl Z I2) → (k.toInt ≤ 5) → k.toInt.toNat < N → th_G l z 4 8 [(0, .inr (some (0, 0))), (1, .inr (some (6, i))), (2, .inl k)] [] (th_m I2) 0 0 := by
    intro N
    induction N with
    | zero => intro k I2 hI2 h1 hm; exact absurd hm (Nat.not_lt_zero _)
    | succ N ih =>
      intro k I2 hI2 h1 hm
      refine th_iload_n C dc_H_wakeJoiners_8 rfl rfl ?_
      refine tq_if_le (tgt := 64) C dc_H_wakeJoiners_9 (by decide) rfl (fun c3 => ?_) (fun c3 => ?_)
      · exact th_vret C hQ dc_H_wakeJoiners_64 (by decide) (by decide) ⟨_, rfl, rfl, hI2, trivial⟩
      · refine th_aload_n C dc_H_wakeJoiners_12 rfl rfl ?_
        refine tq_getR C dc_H_wakeJoiners_13 cl_6 fd_H_138 rfl (show i < 5 from by omega) rfl ?_
        refine tq_callVi C (c_R_takeFirst l hl I2 i hI2 (by omega)) ok_H_282 cl_14 (show i < 11 from by omega) rfl (Nat.le_of_ble_eq_true rfl) dc_H_wakeJoiners_16 rfl (fun x4 I4 p4 => ?_)
        obtain ⟨hI4, p4⟩ := p4
        refine th_istore_n (lv' := [(0, .inr (some (0, 0))), (1, .inr (some (6, i))), (2, .inl k), (3, .inl x4)]) C dc_H_wakeJoiners_19 rfl (by decide) rfl ?_
        refine th_iload_n C dc_H_wakeJoiners_20 rfl rfl ?_
        refine th_iconst (v := -1) C dc_H_wakeJoiners_21 th_c_m1 ?_
        refine tq_icmp_eq (tgt := 58) C dc_H_wakeJoiners_22 (by decide) rfl th_l_m1 (fun c5 => ?_) (fun c5 => ?_)
        · refine tq_iinc (lv' := fun rr => [(0, .inr (some (0, 0))), (1, .inr (some (6, i))), (2, .inl rr), (3, .inl x4)]) C dc_H_wakeJoiners_58 rfl (by decide) th_c_m1 rfl th_l_m1 (fun rr => rfl) (fun x6 e6 a6 => ?_)
          refine th_goto (tgt := 8) C dc_H_wakeJoiners_61 (by decide) ?_
          refine th_sub C (lv' := [(0, .inr (some (0, 0))), (1, .inr (some (6, i))), (2, .inl x6)]) (fun q hq => by simp at hq ⊢; rcases hq with rfl | rfl | rfl <;> simp) ?_
          exact ih x6 I4 hI4 (by omega) (by omega)
        · refine th_aload_n C dc_H_wakeJoiners_25 rfl rfl ?_
          refine th_aload_n C dc_H_wakeJoiners_26 rfl rfl ?_
          refine tq_getR C dc_H_wakeJoiners_27 cl_0 fd_H_11 rfl (show 0 < 1 from by omega) rfl ?_
          refine th_iload_n C dc_H_wakeJoiners_30 rfl rfl ?_
          obtain ⟨n7, m7⟩ := th_nat (a := x4.toInt) (by omega)
          refine tq_aaldN C dc_H_wakeJoiners_31 rfl (fun _ => rfl) (show 0 < 1 from by omega) rfl m7 (show n7 < 5 from by omega) (fun _ => rfl) ?_
          refine th_aload_n C dc_H_wakeJoiners_32 rfl rfl ?_
          refine tq_getR C dc_H_wakeJoiners_33 cl_0 fd_H_11 rfl (show 0 < 1 from by omega) rfl ?_
          refine th_iload_n C dc_H_wakeJoiners_36 rfl rfl ?_
          refine tq_aaldN C dc_H_wakeJoiners_37 rfl (fun _ => rfl) (show 0 < 1 from by omega) rfl m7 (show n7 < 5 from by omega) (fun _ => rfl) ?_
          refine tq_getI C dc_H_wakeJoiners_38 cl_6 fd_H_294 rfl (show n7 < 5 from by omega) (fun x8 e8 => ?_)
          have g8 : x8.toInt = (I4 6 n7 17).toInt := by rw [e8]
          have r8 : 0 ≤ x8.toInt ∧ x8.toInt ≤ 3 := by rw [e8]; exact hI4.1 6 n7 17
          refine th_aload_n C dc_H_wakeJoiners_41 rfl rfl ?_
          refine tq_getI C dc_H_wakeJoiners_42 cl_6 fd_H_112 rfl (show i < 5 from by omega) (fun x9 e9 => ?_)
          have g9 : x9.toInt = (I4 6 i 7).toInt := by rw [e9]
          refine tq_callVv C (c_H_write l hl I4 n7 x8 x9 hI4 (by omega) (by omega)) ok_H_205 cl_0 (show 0 < 1 from by omega) rfl (Nat.le_of_ble_eq_true rfl) dc_H_wakeJoiners_45 rfl (fun I10 p10 => ?_)
          obtain ⟨hI10, p10⟩ := p10
          refine th_aload_n C dc_H_wakeJoiners_48 rfl rfl ?_
          refine tq_getR C dc_H_wakeJoiners_49 cl_0 fd_H_11 rfl (show 0 < 1 from by omega) rfl ?_
          refine th_iload_n C dc_H_wakeJoiners_52 rfl rfl ?_
          refine tq_aaldN C dc_H_wakeJoiners_53 rfl (fun _ => rfl) (show 0 < 1 from by omega) rfl m7 (show n7 < 5 from by omega) (fun _ => rfl) ?_
          refine th_iconst (v := 1) C dc_H_wakeJoiners_54 th_c_1 ?_
          refine tq_putI C dc_H_wakeJoiners_55 cl_6 fd_H_106 rfl (show n7 < 5 from by omega) rfl rfl ?_
          refine th_gen (P := fun J => th_Inv K sl Z J ∧ J = th_u I10 6 n7 5 ((1 : Int32))) ⟨th_put hI10 (by decide) trivial, rfl⟩ (fun I11 hI11 => ?_)
          obtain ⟨hI11, u11⟩ := hI11
          have e11 : (1 : Int32) = I11 6 n7 5 := by rw [u11, th_u_eq]
          have g11 : 1 = (I11 6 n7 5).toInt := by rw [← e11]; exact th_l_1.symm
          refine tq_iinc (lv' := fun rr => [(0, .inr (some (0, 0))), (1, .inr (some (6, i))), (2, .inl rr), (3, .inl x4)]) C dc_H_wakeJoiners_58 rfl (by decide) th_c_m1 rfl th_l_m1 (fun rr => rfl) (fun x12 e12 a12 => ?_)
          refine th_goto (tgt := 8) C dc_H_wakeJoiners_61 (by decide) ?_
          refine th_sub C (lv' := [(0, .inr (some (0, 0))), (1, .inr (some (6, i))), (2, .inl x12)]) (fun q hq => by simp at hq ⊢; rcases hq with rfl | rfl | rfl <;> simp) ?_
          exact ih x12 I11 hI11 (by omega) (by omega)
  exact L8 _ x1 I hI (by omega) (Nat.lt_succ_self _)

set_option maxRecDepth 100000 in
set_option maxHeartbeats 4000000 in
theorem c_H_finish (l : Launch) (hl : l.stackTraces = false) {K sl : Int} {Z : th_I} (I : th_I) (i : Nat) (v : Int32) (hI : th_Inv K sl Z I) (hi : i < 5) : th_F l yn_H_finish cb_H_finish 4 none { frames := 3, cells := 0, slots := 0, locals := 70 } [.inr (some (0, 0)), .inr (some (6, i)), .inl v] (th_m I) (th_rv (fun J => th_Inv K sl Z J ∧ (True))) := by
  refine th_of hl (by decide +kernel) (Nat.le_of_ble_eq_true rfl) (fun z C hQ hN => ?_)
  show th_G l z 4 0 [(0, .inr (some (0, 0))), (1, .inr (some (6, i))), (2, .inl v)] [] (th_m I) 0 0
  have hb := hI.2.2.1
  refine th_aload_n C dc_H_finish_0 rfl rfl ?_
  refine th_aload_n C dc_H_finish_1 rfl rfl ?_
  refine tq_callVv C (c_H_runHooks l hl I i hI (by omega)) ok_H_301 cl_0 (show 0 < 1 from by omega) rfl (Nat.le_of_ble_eq_true rfl) dc_H_finish_2 rfl (fun I1 p1 => ?_)
  obtain ⟨hI1, p1⟩ := p1
  refine th_aload_n C dc_H_finish_5 rfl rfl ?_
  refine tq_callVv C (c_S_forgetAll l hl I1 i hI1 (by omega)) ok_H_304 cl_6 (show i < 5 from by omega) rfl (Nat.le_of_ble_eq_true rfl) dc_H_finish_6 rfl (fun I2 p2 => ?_)
  obtain ⟨hI2, p2⟩ := p2
  refine th_aload_n C dc_H_finish_9 rfl rfl ?_
  refine th_iload_n C dc_H_finish_10 rfl rfl ?_
  refine tq_putI C dc_H_finish_11 cl_6 fd_H_112 rfl (show i < 5 from by omega) rfl rfl ?_
  refine th_gen (P := fun J => th_Inv K sl Z J ∧ J = th_u I2 6 i 7 v) ⟨th_put hI2 (by decide) trivial, rfl⟩ (fun I3 hI3 => ?_)
  obtain ⟨hI3, u3⟩ := hI3
  have e3 : v = I3 6 i 7 := by rw [u3, th_u_eq]
  have g3 : v.toInt = (I3 6 i 7).toInt := by rw [← e3]
  refine th_aload_n C dc_H_finish_14 rfl rfl ?_
  refine th_iconst (v := 5) C dc_H_finish_15 th_c_5 ?_
  refine tq_putI C dc_H_finish_16 cl_6 fd_H_106 rfl (show i < 5 from by omega) rfl rfl ?_
  refine th_gen (P := fun J => th_Inv K sl Z J ∧ J = th_u I3 6 i 5 ((5 : Int32))) ⟨th_put hI3 (by decide) trivial, rfl⟩ (fun I4 hI4 => ?_)
  obtain ⟨hI4, u4⟩ := hI4
  have e5 : v = I4 6 i 7 := by rw [u4, th_u_slot (by decide)]; exact e3
  have g5 : v.toInt = (I4 6 i 7).toInt := by rw [← e5]
  have e4 : (5 : Int32) = I4 6 i 5 := by rw [u4, th_u_eq]
  have g4 : 5 = (I4 6 i 5).toInt := by rw [← e4]; exact th_l_5.symm
  refine th_aload_n C dc_H_finish_19 rfl rfl ?_
  refine th_dup C dc_H_finish_20 ?_
  refine tq_getI C dc_H_finish_21 cl_0 fd_H_170 rfl (show 0 < 1 from by omega) (fun x6 e6 => ?_)
  have g6 : x6.toInt = (I4 0 0 11).toInt := by rw [e6]
  refine th_iconst (v := 1) C dc_H_finish_24 th_c_1 ?_
  refine tq_iadd C dc_H_finish_25 rfl th_l_1 (fun x7 e7 a7 => ?_)
  refine tq_putI C dc_H_finish_26 cl_0 fd_H_170 rfl (show 0 < 1 from by omega) rfl rfl ?_
  refine th_gen (P := fun J => th_Inv K sl Z J ∧ J = th_u I4 0 0 11 x7) ⟨th_put hI4 (by decide) trivial, rfl⟩ (fun I8 hI8 => ?_)
  obtain ⟨hI8, u8⟩ := hI8
  have e9 : v = I8 6 i 7 := by rw [u8, th_u_tag (by decide)]; exact e5
  have g9 : v.toInt = (I8 6 i 7).toInt := by rw [← e9]
  have e10 : (5 : Int32) = I8 6 i 5 := by rw [u8, th_u_tag (by decide)]; exact e4
  have g10 : (5 : Int32).toInt = (I8 6 i 5).toInt := by rw [← e10]
  have e8 : x7 = I8 0 0 11 := by rw [u8, th_u_eq]
  have g8 : x7.toInt = (I8 0 0 11).toInt := by rw [← e8]
  refine th_iconst (v := 0) C dc_H_finish_29 th_c_0 ?_
  refine th_istore_n (lv' := [(0, .inr (some (0, 0))), (1, .inr (some (6, i))), (2, .inl v), (3, .inl ((0 : Int32)))]) C dc_H_finish_30 rfl (by decide) rfl ?_
  have L31 : ∀ (N : Nat) (k : Int32) (I11 : th_I), (th_Inv K sl Z I11) → (0 ≤ k.toInt ∧ k.toInt ≤ 3) → (3 - k.toInt).toNat < N → th_G l z 4 31 [(0, .inr (some (0, 0))), (1, .inr (some (6, i))), (2, .inl v), (3, .inl k)] [] (th_m I11) 0 0 := by
    intro N
    induction N with
    | zero => intro k I11 hI11 h1 hm; exact absurd hm (Nat.not_lt_zero _)
    | succ N ih =>
      intro k I11 hI11 h1 hm
      refine th_iload_n C dc_H_finish_31 rfl rfl ?_
      refine th_iconst (v := 3) C dc_H_finish_32 th_c_3 ?_
      refine tq_icmp_ge (tgt := 68) C dc_H_finish_33 (by decide) rfl th_l_3 (fun c12 => ?_) (fun c12 => ?_)
      · refine th_aload_n C dc_H_finish_68 rfl rfl ?_
        refine th_aload_n C dc_H_finish_69 rfl rfl ?_
        refine tq_callVv C (c_H_wakeJoiners l hl I11 i hI11 (by omega)) ok_H_307 cl_0 (show 0 < 1 from by omega) rfl (Nat.le_of_ble_eq_true rfl) dc_H_finish_70 rfl (fun I13 p13 => ?_)
        obtain ⟨hI13, p13⟩ := p13
        exact th_vret C hQ dc_H_finish_73 (by decide) (by decide) ⟨_, rfl, rfl, hI13, trivial⟩
      · refine th_aload_n C dc_H_finish_36 rfl rfl ?_
        refine tq_getR C dc_H_finish_37 cl_0 fd_H_20 rfl (show 0 < 1 from by omega) rfl ?_
        refine th_iload_n C dc_H_finish_40 rfl rfl ?_
        obtain ⟨n14, m14⟩ := th_nat (a := k.toInt) (by omega)
        refine tq_aaldN C dc_H_finish_41 rfl (fun _ => rfl) (show 0 < 1 from by omega) rfl m14 (show n14 < 3 from by omega) (fun _ => rfl) ?_
        refine tq_getI C dc_H_finish_42 cl_16 fd_H_146 rfl (show n14 < 3 from by omega) (fun x15 e15 => ?_)
        have g15 : x15.toInt = (I11 16 n14 1).toInt := by rw [e15]
        refine th_aload_n C dc_H_finish_45 rfl rfl ?_
        refine tq_getI C dc_H_finish_46 cl_6 fd_H_176 rfl (show i < 5 from by omega) (fun x16 e16 => ?_)
        have g16 : x16.toInt = (I11 6 i 0).toInt := by rw [e16]
        have r16 : x16.toInt = (i : Int) ∨ 5 ≤ i := by rw [e16]; exact hI11.1 6 i 0
        refine tq_icmp_ne (tgt := 62) C dc_H_finish_49 (by decide) rfl rfl (fun c17 => ?_) (fun c17 => ?_)
        · refine tq_iinc (lv' := fun rr => [(0, .inr (some (0, 0))), (1, .inr (some (6, i))), (2, .inl v), (3, .inl rr)]) C dc_H_finish_62 rfl (by decide) th_c_1 rfl th_l_1 (fun rr => rfl) (fun x18 e18 a18 => ?_)
          refine th_goto (tgt := 31) C dc_H_finish_65 (by decide) ?_
          exact ih x18 I11 hI11 (by omega) (by omega)
        · refine th_aload_n C dc_H_finish_52 rfl rfl ?_
          refine th_aload_n C dc_H_finish_53 rfl rfl ?_
          refine tq_getR C dc_H_finish_54 cl_0 fd_H_20 rfl (show 0 < 1 from by omega) rfl ?_
          refine th_iload_n C dc_H_finish_57 rfl rfl ?_
          refine tq_aaldN C dc_H_finish_58 rfl (fun _ => rfl) (show 0 < 1 from by omega) rfl m14 (show n14 < 3 from by omega) (fun _ => rfl) ?_
          refine tq_callVv C (c_H_passOn l hl I11 n14 hI11 (by omega)) ok_H_278 cl_0 (show 0 < 1 from by omega) rfl (Nat.le_of_ble_eq_true rfl) dc_H_finish_59 rfl (fun I19 p19 => ?_)
          obtain ⟨hI19, p19⟩ := p19
          refine tq_iinc (lv' := fun rr => [(0, .inr (some (0, 0))), (1, .inr (some (6, i))), (2, .inl v), (3, .inl rr)]) C dc_H_finish_62 rfl (by decide) th_c_1 rfl th_l_1 (fun rr => rfl) (fun x20 e20 a20 => ?_)
          refine th_goto (tgt := 31) C dc_H_finish_65 (by decide) ?_
          exact ih x20 I19 hI19 (by omega) (by omega)
  exact L31 _ ((0 : Int32)) I8 hI8 (by have := th_l_0; omega) (Nat.lt_succ_self _)

set_option maxRecDepth 100000 in
set_option maxHeartbeats 4000000 in
theorem c_H_raise (l : Launch) (hl : l.stackTraces = false) {K sl : Int} {Z : th_I} (I : th_I) (i : Nat) (e : Int32) (hI : th_Inv K sl Z I) (hi : i < 5) : th_F l yn_H_raise cb_H_raise 3 none { frames := 4, cells := 0, slots := 0, locals := 93 } [.inr (some (0, 0)), .inr (some (6, i)), .inl e] (th_m I) (th_rv (fun J => th_Inv K sl Z J ∧ (True))) := by
  refine th_of hl (by decide +kernel) (Nat.le_of_ble_eq_true rfl) (fun z C hQ hN => ?_)
  show th_G l z 3 0 [(0, .inr (some (0, 0))), (1, .inr (some (6, i))), (2, .inl e)] [] (th_m I) 0 0
  have hb := hI.2.2.1
  refine th_aload_n C dc_H_raise_0 rfl rfl ?_
  refine th_dup C dc_H_raise_1 ?_
  refine tq_getI C dc_H_raise_2 cl_0 fd_H_167 rfl (show 0 < 1 from by omega) (fun x1 e1 => ?_)
  have g1 : x1.toInt = (I 0 0 10).toInt := by rw [e1]
  refine th_iconst (v := 1) C dc_H_raise_5 th_c_1 ?_
  refine tq_iadd C dc_H_raise_6 rfl th_l_1 (fun x2 e2 a2 => ?_)
  refine tq_putI C dc_H_raise_7 cl_0 fd_H_167 rfl (show 0 < 1 from by omega) rfl rfl ?_
  refine th_gen (P := fun J => th_Inv K sl Z J ∧ J = th_u I 0 0 10 x2) ⟨th_put hI (by decide) trivial, rfl⟩ (fun I3 hI3 => ?_)
  obtain ⟨hI3, u3⟩ := hI3
  have e3 : x2 = I3 0 0 10 := by rw [u3, th_u_eq]
  have g3 : x2.toInt = (I3 0 0 10).toInt := by rw [← e3]
  refine th_iload_n C dc_H_raise_10 rfl rfl ?_
  refine th_bipush (v := 7) C dc_H_raise_11 th_b_7 ?_
  refine tq_icmp_ne (tgt := 20) C dc_H_raise_13 (by decide) rfl th_l_7 (fun c4 => ?_) (fun c4 => ?_)
  · refine th_aload_n C dc_H_raise_20 rfl rfl ?_
    refine tq_getI C dc_H_raise_21 cl_6 fd_H_129 rfl (show i < 5 from by omega) (fun x5 e5 => ?_)
    have g5 : x5.toInt = (I3 6 i 8).toInt := by rw [e5]
    have r5 : 0 ≤ x5.toInt ∧ x5.toInt ≤ 24 := by rw [e5]; exact hI3.1 6 i 8
    refine th_bipush (v := 24) C dc_H_raise_24 th_b_24 ?_
    refine tq_icmp_ne (tgt := 37) C dc_H_raise_26 (by decide) rfl th_l_24 (fun c6 => ?_) (fun c6 => ?_)
    · refine th_aload_n C dc_H_raise_37 rfl rfl ?_
      refine th_aload_n C dc_H_raise_38 rfl rfl ?_
      refine tq_getIe C dc_H_raise_39 cl_6 fd_H_129 rfl (show i < 5 from by omega) e5 ?_
      refine tq_putI C dc_H_raise_42 cl_6 fd_H_109 rfl (show i < 5 from by omega) rfl rfl ?_
      refine th_gen (P := fun J => th_Inv K sl Z J ∧ J = th_u I3 6 i 6 x5) ⟨th_put hI3 (by decide) (show 0 ≤ x5.toInt ∧ x5.toInt ≤ 24 from by omega), rfl⟩ (fun I7 hI7 => ?_)
      obtain ⟨hI7, u7⟩ := hI7
      have e8 : x2 = I7 0 0 10 := by rw [u7, th_u_tag (by decide)]; exact e3
      have g8 : x2.toInt = (I7 0 0 10).toInt := by rw [← e8]
      have e9 : x5 = I7 6 i 8 := by rw [u7, th_u_slot (by decide)]; exact e5
      have g9 : x5.toInt = (I7 6 i 8).toInt := by rw [← e9]
      have e7 : x5 = I7 6 i 6 := by rw [u7, th_u_eq]
      have g7 : x5.toInt = (I7 6 i 6).toInt := by rw [← e7]
      refine th_aload_n C dc_H_raise_45 rfl rfl ?_
      refine th_bipush (v := 24) C dc_H_raise_46 th_b_24 ?_
      refine tq_putI C dc_H_raise_48 cl_6 fd_H_129 rfl (show i < 5 from by omega) rfl rfl ?_
      refine th_gen (P := fun J => th_Inv K sl Z J ∧ J = th_u I7 6 i 8 ((24 : Int32))) ⟨th_put hI7 (by decide) (show 0 ≤ (24 : Int32).toInt ∧ (24 : Int32).toInt ≤ 24 from by rw [th_l_24]; omega), rfl⟩ (fun I10 hI10 => ?_)
      obtain ⟨hI10, u10⟩ := hI10
      have e11 : x2 = I10 0 0 10 := by rw [u10, th_u_tag (by decide)]; exact e8
      have g11 : x2.toInt = (I10 0 0 10).toInt := by rw [← e11]
      have e12 : x5 = I10 6 i 6 := by rw [u10, th_u_slot (by decide)]; exact e7
      have g12 : x5.toInt = (I10 6 i 6).toInt := by rw [← e12]
      have e10 : (24 : Int32) = I10 6 i 8 := by rw [u10, th_u_eq]
      have g10 : 24 = (I10 6 i 8).toInt := by rw [← e10]; exact th_l_24.symm
      refine th_aload_n C dc_H_raise_51 rfl rfl ?_
      refine th_aload_n C dc_H_raise_52 rfl rfl ?_
      refine th_iconst (v := 3) C dc_H_raise_53 th_c_3 ?_
      refine th_iload_n C dc_H_raise_54 rfl rfl ?_
      refine tq_callVv C (c_H_write l hl I10 i ((3 : Int32)) e hI10 (by have := th_l_3; omega) (by have := th_l_3; omega)) ok_H_205 cl_0 (show 0 < 1 from by omega) rfl (Nat.le_of_ble_eq_true rfl) dc_H_raise_55 rfl (fun I13 p13 => ?_)
      obtain ⟨hI13, p13⟩ := p13
      try simp only [th_l_3] at p13
      exact th_vret C hQ dc_H_raise_58 (by decide) (by decide) ⟨_, rfl, rfl, hI13, trivial⟩
    · refine th_aload_n C dc_H_raise_29 rfl rfl ?_
      refine th_aload_n C dc_H_raise_30 rfl rfl ?_
      refine th_iload_n C dc_H_raise_31 rfl rfl ?_
      refine tq_ineg C dc_H_raise_32 (fun x14 e14 => ?_)
      refine tq_callVv C (c_H_finish l hl I3 i x14 hI3 (by omega)) ok_H_186 cl_0 (show 0 < 1 from by omega) rfl (Nat.le_of_ble_eq_true rfl) dc_H_raise_33 rfl (fun I15 p15 => ?_)
      obtain ⟨hI15, p15⟩ := p15
      exact th_vret C hQ dc_H_raise_36 (by decide) (by decide) ⟨_, rfl, rfl, hI15, trivial⟩
  · refine th_aload_n C dc_H_raise_16 rfl rfl ?_
    refine tq_callVv C (c_S_forgetInterrupt l hl I3 i hI3 (by omega)) ok_H_298 cl_6 (show i < 5 from by omega) rfl (Nat.le_of_ble_eq_true rfl) dc_H_raise_17 rfl (fun I16 p16 => ?_)
    obtain ⟨hI16, p16⟩ := p16
    refine th_aload_n C dc_H_raise_20 rfl rfl ?_
    refine tq_getI C dc_H_raise_21 cl_6 fd_H_129 rfl (show i < 5 from by omega) (fun x17 e17 => ?_)
    have g17 : x17.toInt = (I16 6 i 8).toInt := by rw [e17]
    have r17 : 0 ≤ x17.toInt ∧ x17.toInt ≤ 24 := by rw [e17]; exact hI16.1 6 i 8
    refine th_bipush (v := 24) C dc_H_raise_24 th_b_24 ?_
    refine tq_icmp_ne (tgt := 37) C dc_H_raise_26 (by decide) rfl th_l_24 (fun c18 => ?_) (fun c18 => ?_)
    · refine th_aload_n C dc_H_raise_37 rfl rfl ?_
      refine th_aload_n C dc_H_raise_38 rfl rfl ?_
      refine tq_getIe C dc_H_raise_39 cl_6 fd_H_129 rfl (show i < 5 from by omega) e17 ?_
      refine tq_putI C dc_H_raise_42 cl_6 fd_H_109 rfl (show i < 5 from by omega) rfl rfl ?_
      refine th_gen (P := fun J => th_Inv K sl Z J ∧ J = th_u I16 6 i 6 x17) ⟨th_put hI16 (by decide) (show 0 ≤ x17.toInt ∧ x17.toInt ≤ 24 from by omega), rfl⟩ (fun I19 hI19 => ?_)
      obtain ⟨hI19, u19⟩ := hI19
      have e20 : x17 = I19 6 i 8 := by rw [u19, th_u_slot (by decide)]; exact e17
      have g20 : x17.toInt = (I19 6 i 8).toInt := by rw [← e20]
      have e19 : x17 = I19 6 i 6 := by rw [u19, th_u_eq]
      have g19 : x17.toInt = (I19 6 i 6).toInt := by rw [← e19]
      refine th_aload_n C dc_H_raise_45 rfl rfl ?_
      refine th_bipush (v := 24) C dc_H_raise_46 th_b_24 ?_
      refine tq_putI C dc_H_raise_48 cl_6 fd_H_129 rfl (show i < 5 from by omega) rfl rfl ?_
      refine th_gen (P := fun J => th_Inv K sl Z J ∧ J = th_u I19 6 i 8 ((24 : Int32))) ⟨th_put hI19 (by decide) (show 0 ≤ (24 : Int32).toInt ∧ (24 : Int32).toInt ≤ 24 from by rw [th_l_24]; omega), rfl⟩ (fun I21 hI21 => ?_)
      obtain ⟨hI21, u21⟩ := hI21
      have e22 : x17 = I21 6 i 6 := by rw [u21, th_u_slot (by decide)]; exact e19
      have g22 : x17.toInt = (I21 6 i 6).toInt := by rw [← e22]
      have e21 : (24 : Int32) = I21 6 i 8 := by rw [u21, th_u_eq]
      have g21 : 24 = (I21 6 i 8).toInt := by rw [← e21]; exact th_l_24.symm
      refine th_aload_n C dc_H_raise_51 rfl rfl ?_
      refine th_aload_n C dc_H_raise_52 rfl rfl ?_
      refine th_iconst (v := 3) C dc_H_raise_53 th_c_3 ?_
      refine th_iload_n C dc_H_raise_54 rfl rfl ?_
      refine tq_callVv C (c_H_write l hl I21 i ((3 : Int32)) e hI21 (by have := th_l_3; omega) (by have := th_l_3; omega)) ok_H_205 cl_0 (show 0 < 1 from by omega) rfl (Nat.le_of_ble_eq_true rfl) dc_H_raise_55 rfl (fun I23 p23 => ?_)
      obtain ⟨hI23, p23⟩ := p23
      try simp only [th_l_3] at p23
      exact th_vret C hQ dc_H_raise_58 (by decide) (by decide) ⟨_, rfl, rfl, hI23, trivial⟩
    · refine th_aload_n C dc_H_raise_29 rfl rfl ?_
      refine th_aload_n C dc_H_raise_30 rfl rfl ?_
      refine th_iload_n C dc_H_raise_31 rfl rfl ?_
      refine tq_ineg C dc_H_raise_32 (fun x24 e24 => ?_)
      refine tq_callVv C (c_H_finish l hl I16 i x24 hI16 (by omega)) ok_H_186 cl_0 (show 0 < 1 from by omega) rfl (Nat.le_of_ble_eq_true rfl) dc_H_raise_33 rfl (fun I25 p25 => ?_)
      obtain ⟨hI25, p25⟩ := p25
      exact th_vret C hQ dc_H_raise_36 (by decide) (by decide) ⟨_, rfl, rfl, hI25, trivial⟩

set_option maxRecDepth 100000 in
set_option maxHeartbeats 4000000 in
theorem c_H_perform (l : Launch) (hl : l.stackTraces = false) {K sl : Int} {Z : th_I} (I : th_I) (i : Nat) (o : Int32) (a : Int32) (b : Int32) (hI : th_Inv K sl Z I) (hi : i < 5) (hv : th_valid o.toInt a.toInt b.toInt) (hK : K < 1000000) : th_F l yn_H_perform cb_H_perform 5 (some .int) { frames := 4, cells := 0, slots := 0, locals := 93 } [.inr (some (0, 0)), .inr (some (6, i)), .inl o, .inl a, .inl b] (th_m I) (th_ri (fun x J => th_Inv (K + 1) sl Z J ∧ (0 ≤ x.toInt ∧ x.toInt ≤ 7))) := by
  refine th_of hl (by decide +kernel) (Nat.le_of_ble_eq_true rfl) (fun z C hQ hN => ?_)
  show th_G l z 5 0 [(0, .inr (some (0, 0))), (1, .inr (some (6, i))), (2, .inl o), (3, .inl a), (4, .inl b)] [] (th_m I) 0 0
  have hb := hI.2.2.1
  unfold th_valid at hv
  refine th_iload_n C dc_H_perform_0 rfl rfl ?_
  have w1 : o.toInt = 0 ∨ o.toInt = 1 ∨ o.toInt = 2 ∨ o.toInt = 3 ∨ o.toInt = 4 ∨ o.toInt = 5 ∨ o.toInt = 6 ∨ o.toInt = 7 ∨ o.toInt = 8 ∨ o.toInt = 9 ∨ o.toInt = 10 ∨ o.toInt = 11 ∨ o.toInt = 12 ∨ o.toInt = 13 ∨ o.toInt = 14 ∨ o.toInt = 15 ∨ o.toInt = 16 ∨ o.toInt = 17 ∨ o.toInt = 18 ∨ o.toInt = 19 ∨ (o.toInt < 0 ∨ 19 < o.toInt) := by omega
  rcases w1 with w1 | w1 | w1 | w1 | w1 | w1 | w1 | w1 | w1 | w1 | w1 | w1 | w1 | w1 | w1 | w1 | w1 | w1 | w1 | w1 | w1
  · refine th_tableIn (tgt := 96) C dc_H_perform_1 (by omega) (by omega) (by rw [w1]; rfl) (by decide) ?_
    refine th_aload_n C dc_H_perform_96 rfl rfl ?_
    refine th_aload_n C dc_H_perform_97 rfl rfl ?_
    refine th_iload_n C dc_H_perform_98 rfl rfl ?_
    refine th_iload C dc_H_perform_99 rfl ?_
    refine tq_callVv C (c_H_write l hl I i a b hI (by omega) (by omega)) ok_H_205 cl_0 (show 0 < 1 from by omega) rfl (Nat.le_of_ble_eq_true rfl) dc_H_perform_101 rfl (fun I2 p2 => ?_)
    obtain ⟨hI2, p2⟩ := p2
    refine th_goto (tgt := 312) C dc_H_perform_104 (by decide) ?_
    refine th_iconst (v := 0) C dc_H_perform_312 th_c_0 ?_
    exact th_iret C hQ dc_H_perform_313 (by decide) (by decide) ⟨_, _, rfl, rfl, (by first | exact hI2 | exact th_mono hI2 (by omega) (by omega)), (by have := th_l_0; first | omega | (dsimp only; omega))⟩
  · refine th_tableIn (tgt := 107) C dc_H_perform_1 (by omega) (by omega) (by rw [w1]; rfl) (by decide) ?_
    refine th_aload_n C dc_H_perform_107 rfl rfl ?_
    refine th_aload_n C dc_H_perform_108 rfl rfl ?_
    refine th_iload_n C dc_H_perform_109 rfl rfl ?_
    refine th_aload_n C dc_H_perform_110 rfl rfl ?_
    refine th_aload_n C dc_H_perform_111 rfl rfl ?_
    refine th_iload_n C dc_H_perform_112 rfl rfl ?_
    refine tq_callVp C (c_H_read l hl I i a hI (by omega) (by omega)) ok_H_102 cl_0 (show 0 < 1 from by omega) rfl (Nat.le_of_ble_eq_true rfl) dc_H_perform_113 rfl (fun x3 p3 => ?_)
    refine th_iload C dc_H_perform_116 rfl ?_
    refine tq_iadd C dc_H_perform_118 rfl rfl (fun x4 e4 a4 => ?_)
    refine tq_callVv C (c_H_write l hl I i a x4 hI (by omega) (by omega)) ok_H_205 cl_0 (show 0 < 1 from by omega) rfl (Nat.le_of_ble_eq_true rfl) dc_H_perform_119 rfl (fun I5 p5 => ?_)
    obtain ⟨hI5, p5⟩ := p5
    refine th_goto (tgt := 312) C dc_H_perform_122 (by decide) ?_
    refine th_iconst (v := 0) C dc_H_perform_312 th_c_0 ?_
    exact th_iret C hQ dc_H_perform_313 (by decide) (by decide) ⟨_, _, rfl, rfl, (by first | exact hI5 | exact th_mono hI5 (by omega) (by omega)), (by have := th_l_0; first | omega | (dsimp only; omega))⟩
  · refine th_tableIn (tgt := 125) C dc_H_perform_1 (by omega) (by omega) (by rw [w1]; rfl) (by decide) ?_
    refine th_aload_n C dc_H_perform_125 rfl rfl ?_
    refine th_aload_n C dc_H_perform_126 rfl rfl ?_
    refine th_iload_n C dc_H_perform_127 rfl rfl ?_
    refine th_aload_n C dc_H_perform_128 rfl rfl ?_
    refine th_aload_n C dc_H_perform_129 rfl rfl ?_
    refine th_iload C dc_H_perform_130 rfl ?_
    refine tq_callVp C (c_H_read l hl I i b hI (by omega) (by omega)) ok_H_102 cl_0 (show 0 < 1 from by omega) rfl (Nat.le_of_ble_eq_true rfl) dc_H_perform_132 rfl (fun x6 p6 => ?_)
    refine tq_callVv C (c_H_write l hl I i a x6 hI (by omega) (by omega)) ok_H_205 cl_0 (show 0 < 1 from by omega) rfl (Nat.le_of_ble_eq_true rfl) dc_H_perform_135 rfl (fun I7 p7 => ?_)
    obtain ⟨hI7, p7⟩ := p7
    refine th_goto (tgt := 312) C dc_H_perform_138 (by decide) ?_
    refine th_iconst (v := 0) C dc_H_perform_312 th_c_0 ?_
    exact th_iret C hQ dc_H_perform_313 (by decide) (by decide) ⟨_, _, rfl, rfl, (by first | exact hI7 | exact th_mono hI7 (by omega) (by omega)), (by have := th_l_0; first | omega | (dsimp only; omega))⟩
  · refine th_tableIn (tgt := 141) C dc_H_perform_1 (by omega) (by omega) (by rw [w1]; rfl) (by decide) ?_
    refine th_aload_n C dc_H_perform_141 rfl rfl ?_
    refine th_iload_n C dc_H_perform_142 rfl rfl ?_
    refine th_iload C dc_H_perform_143 rfl ?_
    refine tq_callSi C (c_H_bind l hl I i a b hI (by omega) (by omega)) ok_H_209 rfl (Nat.le_of_ble_eq_true rfl) dc_H_perform_145 rfl (fun x8 I8 p8 => ?_)
    obtain ⟨hI8, p8⟩ := p8
    exact th_iret C hQ dc_H_perform_148 (by decide) (by decide) ⟨_, _, rfl, rfl, (by first | exact hI8 | exact th_mono hI8 (by omega) (by omega)), (by first | omega | (dsimp only; omega))⟩
  · refine th_tableIn (tgt := 149) C dc_H_perform_1 (by omega) (by omega) (by rw [w1]; rfl) (by decide) ?_
    refine th_aload_n C dc_H_perform_149 rfl rfl ?_
    refine th_iload_n C dc_H_perform_150 rfl rfl ?_
    refine tq_callSi C (c_H_unbind l hl I i a hI (by omega)) ok_H_213 rfl (Nat.le_of_ble_eq_true rfl) dc_H_perform_151 rfl (fun x9 I9 p9 => ?_)
    obtain ⟨hI9, p9⟩ := p9
    exact th_iret C hQ dc_H_perform_154 (by decide) (by decide) ⟨_, _, rfl, rfl, (by first | exact hI9 | exact th_mono hI9 (by omega) (by omega)), (by first | omega | (dsimp only; omega))⟩
  · refine th_tableIn (tgt := 155) C dc_H_perform_1 (by omega) (by omega) (by rw [w1]; rfl) (by decide) ?_
    refine th_aload_n C dc_H_perform_155 rfl rfl ?_
    refine th_aload_n C dc_H_perform_156 rfl rfl ?_
    refine th_iload_n C dc_H_perform_157 rfl rfl ?_
    refine th_iconst (v := 1) C dc_H_perform_158 th_c_1 ?_
    refine tq_callVv C (c_H_goFor l hl I i a ((1 : Int32)) hI (by have := th_l_1; omega) (by have := th_l_1; omega)) ok_H_216 cl_0 (show 0 < 1 from by omega) rfl (Nat.le_of_ble_eq_true rfl) dc_H_perform_159 rfl (fun I10 p10 => ?_)
    obtain ⟨hI10, p10⟩ := p10
    try simp only [th_l_1] at p10
    refine th_goto (tgt := 312) C dc_H_perform_162 (by decide) ?_
    refine th_iconst (v := 0) C dc_H_perform_312 th_c_0 ?_
    exact th_iret C hQ dc_H_perform_313 (by decide) (by decide) ⟨_, _, rfl, rfl, (by first | exact hI10 | exact th_mono hI10 (by omega) (by omega)), (by have := th_l_0; first | omega | (dsimp only; omega))⟩
  · refine th_tableIn (tgt := 165) C dc_H_perform_1 (by omega) (by omega) (by rw [w1]; rfl) (by decide) ?_
    refine th_aload_n C dc_H_perform_165 rfl rfl ?_
    refine th_aload_n C dc_H_perform_166 rfl rfl ?_
    refine th_iload_n C dc_H_perform_167 rfl rfl ?_
    refine tq_callVi C (c_H_unlock l hl I i a hI (by omega) (by omega)) ok_H_219 cl_0 (show 0 < 1 from by omega) rfl (Nat.le_of_ble_eq_true rfl) dc_H_perform_168 rfl (fun x11 I11 p11 => ?_)
    obtain ⟨hI11, p11⟩ := p11
    exact th_iret C hQ dc_H_perform_171 (by decide) (by decide) ⟨_, _, rfl, rfl, (by first | exact hI11 | exact th_mono hI11 (by omega) (by omega)), (by first | omega | (dsimp only; omega))⟩
  · refine th_tableIn (tgt := 172) C dc_H_perform_1 (by omega) (by omega) (by rw [w1]; rfl) (by decide) ?_
    refine th_aload_n C dc_H_perform_172 rfl rfl ?_
    refine th_aload_n C dc_H_perform_173 rfl rfl ?_
    refine th_iload_n C dc_H_perform_174 rfl rfl ?_
    refine th_iload C dc_H_perform_175 rfl ?_
    refine tq_callVv C (c_H_tryLock l hl I i a b hI (by omega) (by omega) (by omega)) ok_H_222 cl_0 (show 0 < 1 from by omega) rfl (Nat.le_of_ble_eq_true rfl) dc_H_perform_177 rfl (fun I12 p12 => ?_)
    obtain ⟨hI12, p12⟩ := p12
    refine th_goto (tgt := 312) C dc_H_perform_180 (by decide) ?_
    refine th_iconst (v := 0) C dc_H_perform_312 th_c_0 ?_
    exact th_iret C hQ dc_H_perform_313 (by decide) (by decide) ⟨_, _, rfl, rfl, (by first | exact hI12 | exact th_mono hI12 (by omega) (by omega)), (by have := th_l_0; first | omega | (dsimp only; omega))⟩
  · refine th_tableIn (tgt := 183) C dc_H_perform_1 (by omega) (by omega) (by rw [w1]; rfl) (by decide) ?_
    refine th_aload_n C dc_H_perform_183 rfl rfl ?_
    refine th_aload_n C dc_H_perform_184 rfl rfl ?_
    refine th_iload_n C dc_H_perform_185 rfl rfl ?_
    refine th_iload C dc_H_perform_186 rfl ?_
    refine tq_callVi C (c_H_beginWait l hl I i a b hI (by omega) (by omega) (by omega)) ok_H_225 cl_0 (show 0 < 1 from by omega) rfl (Nat.le_of_ble_eq_true rfl) dc_H_perform_188 rfl (fun x13 I13 p13 => ?_)
    obtain ⟨hI13, p13⟩ := p13
    exact th_iret C hQ dc_H_perform_191 (by decide) (by decide) ⟨_, _, rfl, rfl, (by first | exact hI13 | exact th_mono hI13 (by omega) (by omega)), (by first | omega | (dsimp only; omega))⟩
  · refine th_tableIn (tgt := 192) C dc_H_perform_1 (by omega) (by omega) (by rw [w1]; rfl) (by decide) ?_
    refine th_aload_n C dc_H_perform_192 rfl rfl ?_
    refine th_aload_n C dc_H_perform_193 rfl rfl ?_
    refine tq_getR C dc_H_perform_194 cl_0 fd_H_27 rfl (show 0 < 1 from by omega) rfl ?_
    refine th_iload_n C dc_H_perform_197 rfl rfl ?_
    obtain ⟨n14, m14⟩ := th_nat (a := a.toInt) (by omega)
    refine tq_aaldN C dc_H_perform_198 rfl (fun _ => rfl) (show 0 < 1 from by omega) rfl m14 (show n14 < 3 from by omega) (fun _ => rfl) ?_
    refine tq_callVv C (c_H_tellFirst l hl I (8 + n14) hI (by omega)) ok_H_228 cl_0 (show 0 < 1 from by omega) rfl (Nat.le_of_ble_eq_true rfl) dc_H_perform_199 rfl (fun I15 p15 => ?_)
    obtain ⟨hI15, p15⟩ := p15
    refine th_goto (tgt := 312) C dc_H_perform_202 (by decide) ?_
    refine th_iconst (v := 0) C dc_H_perform_312 th_c_0 ?_
    exact th_iret C hQ dc_H_perform_313 (by decide) (by decide) ⟨_, _, rfl, rfl, (by first | exact hI15 | exact th_mono hI15 (by omega) (by omega)), (by have := th_l_0; first | omega | (dsimp only; omega))⟩
  · refine th_tableIn (tgt := 205) C dc_H_perform_1 (by omega) (by omega) (by rw [w1]; rfl) (by decide) ?_
    refine th_aload_n C dc_H_perform_205 rfl rfl ?_
    refine th_aload_n C dc_H_perform_206 rfl rfl ?_
    refine tq_getR C dc_H_perform_207 cl_0 fd_H_27 rfl (show 0 < 1 from by omega) rfl ?_
    refine th_iload_n C dc_H_perform_210 rfl rfl ?_
    obtain ⟨n16, m16⟩ := th_nat (a := a.toInt) (by omega)
    refine tq_aaldN C dc_H_perform_211 rfl (fun _ => rfl) (show 0 < 1 from by omega) rfl m16 (show n16 < 3 from by omega) (fun _ => rfl) ?_
    refine tq_callVv C (c_H_tellAll l hl I (8 + n16) hI (by omega)) ok_H_232 cl_0 (show 0 < 1 from by omega) rfl (Nat.le_of_ble_eq_true rfl) dc_H_perform_212 rfl (fun I17 p17 => ?_)
    obtain ⟨hI17, p17⟩ := p17
    refine th_goto (tgt := 312) C dc_H_perform_215 (by decide) ?_
    refine th_iconst (v := 0) C dc_H_perform_312 th_c_0 ?_
    exact th_iret C hQ dc_H_perform_313 (by decide) (by decide) ⟨_, _, rfl, rfl, (by first | exact hI17 | exact th_mono hI17 (by omega) (by omega)), (by have := th_l_0; first | omega | (dsimp only; omega))⟩
  · refine th_tableIn (tgt := 218) C dc_H_perform_1 (by omega) (by omega) (by rw [w1]; rfl) (by decide) ?_
    refine th_aload_n C dc_H_perform_218 rfl rfl ?_
    refine tq_getR C dc_H_perform_219 cl_0 fd_H_11 rfl (show 0 < 1 from by omega) rfl ?_
    refine th_iload_n C dc_H_perform_222 rfl rfl ?_
    obtain ⟨n18, m18⟩ := th_nat (a := a.toInt) (by omega)
    refine tq_aaldN C dc_H_perform_223 rfl (fun _ => rfl) (show 0 < 1 from by omega) rfl m18 (show n18 < 5 from by omega) (fun _ => rfl) ?_
    refine tq_callSi C (c_H_startOther l hl I n18 hI (by omega)) ok_H_235 rfl (Nat.le_of_ble_eq_true rfl) dc_H_perform_224 rfl (fun x19 I19 p19 => ?_)
    obtain ⟨hI19, p19⟩ := p19
    exact th_iret C hQ dc_H_perform_227 (by decide) (by decide) ⟨_, _, rfl, rfl, (by first | exact hI19 | exact th_mono hI19 (by omega) (by omega)), (by first | omega | (dsimp only; omega))⟩
  · refine th_tableIn (tgt := 228) C dc_H_perform_1 (by omega) (by omega) (by rw [w1]; rfl) (by decide) ?_
    refine th_aload_n C dc_H_perform_228 rfl rfl ?_
    refine th_aload_n C dc_H_perform_229 rfl rfl ?_
    refine th_iload_n C dc_H_perform_230 rfl rfl ?_
    refine th_iload C dc_H_perform_231 rfl ?_
    refine tq_callVi C (c_H_beginJoin l hl I i a b hI (by omega) (by omega) (by omega)) ok_H_239 cl_0 (show 0 < 1 from by omega) rfl (Nat.le_of_ble_eq_true rfl) dc_H_perform_233 rfl (fun x20 I20 p20 => ?_)
    obtain ⟨hI20, p20⟩ := p20
    exact th_iret C hQ dc_H_perform_236 (by decide) (by decide) ⟨_, _, rfl, rfl, (by first | exact hI20 | exact th_mono hI20 (by omega) (by omega)), (by first | omega | (dsimp only; omega))⟩
  · refine th_tableIn (tgt := 237) C dc_H_perform_1 (by omega) (by omega) (by rw [w1]; rfl) (by decide) ?_
    refine th_aload_n C dc_H_perform_237 rfl rfl ?_
    refine th_aload_n C dc_H_perform_238 rfl rfl ?_
    refine tq_getR C dc_H_perform_239 cl_0 fd_H_11 rfl (show 0 < 1 from by omega) rfl ?_
    refine th_iload_n C dc_H_perform_242 rfl rfl ?_
    obtain ⟨n21, m21⟩ := th_nat (a := a.toInt) (by omega)
    refine tq_aaldN C dc_H_perform_243 rfl (fun _ => rfl) (show 0 < 1 from by omega) rfl m21 (show n21 < 5 from by omega) (fun _ => rfl) ?_
    refine tq_callVv C (c_H_interruptAlive l hl I n21 hI (by omega)) ok_H_99 cl_0 (show 0 < 1 from by omega) rfl (Nat.le_of_ble_eq_true rfl) dc_H_perform_244 rfl (fun I22 p22 => ?_)
    obtain ⟨hI22, p22⟩ := p22
    refine th_goto (tgt := 312) C dc_H_perform_247 (by decide) ?_
    refine th_iconst (v := 0) C dc_H_perform_312 th_c_0 ?_
    exact th_iret C hQ dc_H_perform_313 (by decide) (by decide) ⟨_, _, rfl, rfl, (by first | exact hI22 | exact th_mono hI22 (by omega) (by omega)), (by have := th_l_0; first | omega | (dsimp only; omega))⟩
  · refine th_tableIn (tgt := 250) C dc_H_perform_1 (by omega) (by omega) (by rw [w1]; rfl) (by decide) ?_
    refine th_aload_n C dc_H_perform_250 rfl rfl ?_
    refine th_iload_n C dc_H_perform_251 rfl rfl ?_
    refine tq_putI C dc_H_perform_252 cl_6 fd_H_129 rfl (show i < 5 from by omega) rfl rfl ?_
    refine th_gen (P := fun J => th_Inv K sl Z J ∧ J = th_u I 6 i 8 a) ⟨th_put hI (by decide) (show 0 ≤ a.toInt ∧ a.toInt ≤ 24 from by omega), rfl⟩ (fun I23 hI23 => ?_)
    obtain ⟨hI23, u23⟩ := hI23
    have e23 : a = I23 6 i 8 := by rw [u23, th_u_eq]
    have g23 : a.toInt = (I23 6 i 8).toInt := by rw [← e23]
    refine th_goto (tgt := 312) C dc_H_perform_255 (by decide) ?_
    refine th_iconst (v := 0) C dc_H_perform_312 th_c_0 ?_
    exact th_iret C hQ dc_H_perform_313 (by decide) (by decide) ⟨_, _, rfl, rfl, (by first | exact hI23 | exact th_mono hI23 (by omega) (by omega)), (by have := th_l_0; first | omega | (dsimp only; omega))⟩
  · refine th_tableIn (tgt := 258) C dc_H_perform_1 (by omega) (by omega) (by rw [w1]; rfl) (by decide) ?_
    refine th_aload_n C dc_H_perform_258 rfl rfl ?_
    refine th_iload_n C dc_H_perform_259 rfl rfl ?_
    refine th_iload C dc_H_perform_260 rfl ?_
    refine tq_callSi C (c_H_hook l hl I i a b hI (by omega) (by omega)) ok_H_242 rfl (Nat.le_of_ble_eq_true rfl) dc_H_perform_262 rfl (fun x24 I24 p24 => ?_)
    obtain ⟨hI24, p24⟩ := p24
    exact th_iret C hQ dc_H_perform_265 (by decide) (by decide) ⟨_, _, rfl, rfl, (by first | exact hI24 | exact th_mono hI24 (by omega) (by omega)), (by first | omega | (dsimp only; omega))⟩
  · refine th_tableIn (tgt := 266) C dc_H_perform_1 (by omega) (by omega) (by rw [w1]; rfl) (by decide) ?_
    refine th_aload_n C dc_H_perform_266 rfl rfl ?_
    refine th_iload_n C dc_H_perform_267 rfl rfl ?_
    refine tq_putI C dc_H_perform_268 cl_6 fd_H_109 rfl (show i < 5 from by omega) rfl rfl ?_
    refine th_gen (P := fun J => th_Inv K sl Z J ∧ J = th_u I 6 i 6 a) ⟨th_put hI (by decide) (show 0 ≤ a.toInt ∧ a.toInt ≤ 24 from by omega), rfl⟩ (fun I25 hI25 => ?_)
    obtain ⟨hI25, u25⟩ := hI25
    have e25 : a = I25 6 i 6 := by rw [u25, th_u_eq]
    have g25 : a.toInt = (I25 6 i 6).toInt := by rw [← e25]
    refine th_goto (tgt := 312) C dc_H_perform_271 (by decide) ?_
    refine th_iconst (v := 0) C dc_H_perform_312 th_c_0 ?_
    exact th_iret C hQ dc_H_perform_313 (by decide) (by decide) ⟨_, _, rfl, rfl, (by first | exact hI25 | exact th_mono hI25 (by omega) (by omega)), (by have := th_l_0; first | omega | (dsimp only; omega))⟩
  · refine th_tableIn (tgt := 274) C dc_H_perform_1 (by omega) (by omega) (by rw [w1]; rfl) (by decide) ?_
    refine th_aload_n C dc_H_perform_274 rfl rfl ?_
    refine th_aload_n C dc_H_perform_275 rfl rfl ?_
    refine th_iload_n C dc_H_perform_276 rfl rfl ?_
    refine th_iload C dc_H_perform_277 rfl ?_
    refine tq_callVv C (c_H_jumpIfZero l hl I i a b hI (by omega) (by omega) (by omega)) ok_H_245 cl_0 (show 0 < 1 from by omega) rfl (Nat.le_of_ble_eq_true rfl) dc_H_perform_279 rfl (fun I26 p26 => ?_)
    obtain ⟨hI26, p26⟩ := p26
    refine th_goto (tgt := 312) C dc_H_perform_282 (by decide) ?_
    refine th_iconst (v := 0) C dc_H_perform_312 th_c_0 ?_
    exact th_iret C hQ dc_H_perform_313 (by decide) (by decide) ⟨_, _, rfl, rfl, (by first | exact hI26 | exact th_mono hI26 (by omega) (by omega)), (by have := th_l_0; first | omega | (dsimp only; omega))⟩
  · refine th_tableIn (tgt := 285) C dc_H_perform_1 (by omega) (by omega) (by rw [w1]; rfl) (by decide) ?_
    refine th_aload_n C dc_H_perform_285 rfl rfl ?_
    refine th_aload_n C dc_H_perform_286 rfl rfl ?_
    refine th_aload_n C dc_H_perform_287 rfl rfl ?_
    refine th_iload_n C dc_H_perform_288 rfl rfl ?_
    refine tq_callVp C (c_H_read l hl I i a hI (by omega) (by omega)) ok_H_102 cl_0 (show 0 < 1 from by omega) rfl (Nat.le_of_ble_eq_true rfl) dc_H_perform_289 rfl (fun x27 p27 => ?_)
    refine tq_callVv C (c_H_keepSaid l hl I x27 hI (by omega)) ok_H_248 cl_0 (show 0 < 1 from by omega) rfl (Nat.le_of_ble_eq_true rfl) dc_H_perform_292 rfl (fun I28 p28 => ?_)
    obtain ⟨hI28, p28⟩ := p28
    refine th_goto (tgt := 312) C dc_H_perform_295 (by decide) ?_
    refine th_iconst (v := 0) C dc_H_perform_312 th_c_0 ?_
    exact th_iret C hQ dc_H_perform_313 (by decide) (by decide) ⟨_, _, rfl, rfl, (by first | exact hI28 | exact th_mono hI28 (by omega) (by omega)), (by have := th_l_0; first | omega | (dsimp only; omega))⟩
  · refine th_tableIn (tgt := 298) C dc_H_perform_1 (by omega) (by omega) (by rw [w1]; rfl) (by decide) ?_
    refine th_aload_n C dc_H_perform_298 rfl rfl ?_
    refine th_aload_n C dc_H_perform_299 rfl rfl ?_
    refine th_aload_n C dc_H_perform_300 rfl rfl ?_
    refine th_aload_n C dc_H_perform_301 rfl rfl ?_
    refine th_iload_n C dc_H_perform_302 rfl rfl ?_
    refine tq_callVp C (c_H_read l hl I i a hI (by omega) (by omega)) ok_H_102 cl_0 (show 0 < 1 from by omega) rfl (Nat.le_of_ble_eq_true rfl) dc_H_perform_303 rfl (fun x29 p29 => ?_)
    refine tq_callVv C (c_H_finish l hl I i x29 hI (by omega)) ok_H_186 cl_0 (show 0 < 1 from by omega) rfl (Nat.le_of_ble_eq_true rfl) dc_H_perform_306 rfl (fun I30 p30 => ?_)
    obtain ⟨hI30, p30⟩ := p30
    refine th_goto (tgt := 312) C dc_H_perform_309 (by decide) ?_
    refine th_iconst (v := 0) C dc_H_perform_312 th_c_0 ?_
    exact th_iret C hQ dc_H_perform_313 (by decide) (by decide) ⟨_, _, rfl, rfl, (by first | exact hI30 | exact th_mono hI30 (by omega) (by omega)), (by have := th_l_0; first | omega | (dsimp only; omega))⟩
  · refine th_tableOut (tgt := 312) C dc_H_perform_1 w1 (by decide) ?_
    refine th_iconst (v := 0) C dc_H_perform_312 th_c_0 ?_
    exact th_iret C hQ dc_H_perform_313 (by decide) (by decide) ⟨_, _, rfl, rfl, (by first | exact hI | exact th_mono hI (by omega) (by omega)), (by have := th_l_0; first | omega | (dsimp only; omega))⟩

set_option maxRecDepth 100000 in
set_option maxHeartbeats 4000000 in
theorem c_H_takeTurn (l : Launch) (hl : l.stackTraces = false) {K sl : Int} {Z : th_I} (I : th_I) (i : Nat) (hI : th_Inv K sl Z I) (hi : i < 5) (hK : K + 20 ≤ 1000000) : th_F l yn_H_takeTurn cb_H_takeTurn 6 none { frames := 5, cells := 0, slots := 0, locals := 117 } [.inr (some (0, 0)), .inr (some (6, i))] (th_m I) (th_rv (fun J => th_Inv (K + 20) sl Z J ∧ (True))) := by
  refine th_of hl (by decide +kernel) (Nat.le_of_ble_eq_true rfl) (fun z C hQ hN => ?_)
  show th_G l z 6 0 [(0, .inr (some (0, 0))), (1, .inr (some (6, i)))] [] (th_m I) 0 0
  have hb := hI.2.2.1
  refine th_aload_n C dc_H_takeTurn_0 rfl rfl ?_
  refine th_aload_n C dc_H_takeTurn_1 rfl rfl ?_
  refine tq_getI C dc_H_takeTurn_2 cl_6 fd_H_176 rfl (show i < 5 from by omega) (fun x1 e1 => ?_)
  have g1 : x1.toInt = (I 6 i 0).toInt := by rw [e1]
  have r1 : x1.toInt = (i : Int) ∨ 5 ≤ i := by rw [e1]; exact hI.1 6 i 0
  refine tq_putI C dc_H_takeTurn_5 cl_0 fd_H_43 rfl (show 0 < 1 from by omega) rfl rfl ?_
  refine th_gen (P := fun J => th_Inv K sl Z J ∧ J = th_u I 0 0 7 x1) ⟨th_put hI (by decide) (show -1 ≤ x1.toInt ∧ x1.toInt ≤ 4 from by omega), rfl⟩ (fun I2 hI2 => ?_)
  obtain ⟨hI2, u2⟩ := hI2
  have e3 : x1 = I2 6 i 0 := by rw [u2, th_u_tag (by decide)]; exact e1
  have g3 : x1.toInt = (I2 6 i 0).toInt := by rw [← e3]
  have e2 : x1 = I2 0 0 7 := by rw [u2, th_u_eq]
  have g2 : x1.toInt = (I2 0 0 7).toInt := by rw [← e2]
  refine th_aload_n C dc_H_takeTurn_8 rfl rfl ?_
  refine th_dup C dc_H_takeTurn_9 ?_
  refine tq_getI C dc_H_takeTurn_10 cl_0 fd_H_158 rfl (show 0 < 1 from by omega) (fun x4 e4 => ?_)
  have g4 : x4.toInt = (I2 0 0 8).toInt := by rw [e4]
  refine th_iconst (v := 1) C dc_H_takeTurn_13 th_c_1 ?_
  refine tq_iadd C dc_H_takeTurn_14 rfl th_l_1 (fun x5 e5 a5 => ?_)
  refine tq_putI C dc_H_takeTurn_15 cl_0 fd_H_158 rfl (show 0 < 1 from by omega) rfl rfl ?_
  refine th_gen (P := fun J => th_Inv K sl Z J ∧ J = th_u I2 0 0 8 x5) ⟨th_put hI2 (by decide) trivial, rfl⟩ (fun I6 hI6 => ?_)
  obtain ⟨hI6, u6⟩ := hI6
  have e7 : x1 = I6 6 i 0 := by rw [u6, th_u_tag (by decide)]; exact e3
  have g7 : x1.toInt = (I6 6 i 0).toInt := by rw [← e7]
  have e8 : x1 = I6 0 0 7 := by rw [u6, th_u_slot (by decide)]; exact e2
  have g8 : x1.toInt = (I6 0 0 7).toInt := by rw [← e8]
  have e6 : x5 = I6 0 0 8 := by rw [u6, th_u_eq]
  have g6 : x5.toInt = (I6 0 0 8).toInt := by rw [← e6]
  refine th_aload_n C dc_H_takeTurn_18 rfl rfl ?_
  refine tq_getI C dc_H_takeTurn_19 cl_6 fd_H_179 rfl (show i < 5 from by omega) (fun x9 e9 => ?_)
  have g9 : x9.toInt = (I6 6 i 12).toInt := by rw [e9]
  refine tq_if_eq (tgt := 32) C dc_H_takeTurn_22 (by decide) rfl (fun c10 => ?_) (fun c10 => ?_)
  · refine th_aload_n C dc_H_takeTurn_32 rfl rfl ?_
    refine tq_getR C dc_H_takeTurn_33 cl_6 fd_H_63 rfl (show i < 5 from by omega) rfl ?_
    refine th_astore_n (lv' := [(0, .inr (some (0, 0))), (1, .inr (some (6, i))), (2, .inr (some (7, i)))]) C dc_H_takeTurn_36 rfl (by decide) rfl ?_
    refine th_iconst (v := 0) C dc_H_takeTurn_37 th_c_0 ?_
    refine th_istore_n (lv' := [(0, .inr (some (0, 0))), (1, .inr (some (6, i))), (2, .inr (some (7, i))), (3, .inl ((0 : Int32)))]) C dc_H_takeTurn_38 rfl (by decide) rfl ?_
    have L39 : ∀ (N : Nat) (k : Int32) (I11 : th_I), (th_Inv (K + k.toInt) sl Z I11) → (0 ≤ k.toInt ∧ k.toInt ≤ sl) → (sl - k.toInt).toNat < N → th_G l z 6 39 [(0, .inr (some (0, 0))), (1, .inr (some (6, i))), (2, .inr (some (7, i))), (3, .inl k)] [] (th_m I11) 0 0 := by
      intro N
      induction N with
      | zero => intro k I11 hI11 h1 hm; exact absurd hm (Nat.not_lt_zero _)
      | succ N ih =>
        intro k I11 hI11 h1 hm
        refine th_iload_n C dc_H_takeTurn_39 rfl rfl ?_
        refine th_aload_n C dc_H_takeTurn_40 rfl rfl ?_
        refine tq_getI C dc_H_takeTurn_41 cl_0 fd_H_39 rfl (show 0 < 1 from by omega) (fun x12 e12 => ?_)
        have g12 : x12.toInt = (I11 0 0 6).toInt := by rw [e12]
        have r12 : x12.toInt = sl ∨ 0 < 0 := by rw [e12]; exact hI11.1 0 0 6
        refine tq_icmp_ge (tgt := 142) C dc_H_takeTurn_44 (by decide) rfl rfl (fun c13 => ?_) (fun c13 => ?_)
        · exact th_vret C hQ dc_H_takeTurn_142 (by decide) (by decide) ⟨_, rfl, rfl, (by first | exact hI11 | exact th_mono hI11 (by omega) (by omega)), trivial⟩
        · refine th_aload_n C dc_H_takeTurn_47 rfl rfl ?_
          refine tq_getI C dc_H_takeTurn_48 cl_6 fd_H_106 rfl (show i < 5 from by omega) (fun x14 e14 => ?_)
          have g14 : x14.toInt = (I11 6 i 5).toInt := by rw [e14]
          refine th_iconst (v := 1) C dc_H_takeTurn_51 th_c_1 ?_
          refine tq_icmp_eq (tgt := 56) C dc_H_takeTurn_52 (by decide) rfl th_l_1 (fun c15 => ?_) (fun c15 => ?_)
          · refine th_aload_n C dc_H_takeTurn_56 rfl rfl ?_
            refine tq_getI C dc_H_takeTurn_57 cl_6 fd_H_109 rfl (show i < 5 from by omega) (fun x16 e16 => ?_)
            have g16 : x16.toInt = (I11 6 i 6).toInt := by rw [e16]
            have r16 : 0 ≤ x16.toInt ∧ x16.toInt ≤ 24 := by rw [e16]; exact hI11.1 6 i 6
            refine th_istore (lv' := [(0, .inr (some (0, 0))), (1, .inr (some (6, i))), (2, .inr (some (7, i))), (3, .inl k), (4, .inl x16)]) C dc_H_takeTurn_60 (by decide) rfl ?_
            refine th_iload C dc_H_takeTurn_62 rfl ?_
            refine th_aload_n C dc_H_takeTurn_64 rfl rfl ?_
            refine tq_getI C dc_H_takeTurn_65 cl_7 fd_H_67 rfl (show i < 5 from by omega) (fun x17 e17 => ?_)
            have g17 : x17.toInt = (I11 7 i 3).toInt := by rw [e17]
            have r17 : 0 ≤ x17.toInt ∧ x17.toInt ≤ 24 := by rw [e17]; exact hI11.1 7 i 3
            refine tq_icmp_lt (tgt := 78) C dc_H_takeTurn_68 (by decide) rfl rfl (fun c18 => ?_) (fun c18 => ?_)
            · refine th_aload_n C dc_H_takeTurn_78 rfl rfl ?_
              refine th_aload_n C dc_H_takeTurn_79 rfl rfl ?_
              refine tq_callVv C (c_H_countInstruction l hl I11 i hI11 (by omega) (by omega)) ok_H_189 cl_0 (show 0 < 1 from by omega) rfl (Nat.le_of_ble_eq_true rfl) dc_H_takeTurn_80 rfl (fun I19 p19 => ?_)
              obtain ⟨hI19, p19⟩ := p19
              refine th_aload_n C dc_H_takeTurn_83 rfl rfl ?_
              refine th_aload_n C dc_H_takeTurn_84 rfl rfl ?_
              refine th_aload_n C dc_H_takeTurn_85 rfl rfl ?_
              refine tq_getR C dc_H_takeTurn_86 cl_7 fd_H_192 rfl (show i < 5 from by omega) rfl ?_
              refine th_iload C dc_H_takeTurn_89 rfl ?_
              obtain ⟨n21, m21⟩ := th_nat (a := x16.toInt) (by omega)
              refine tq_ialdN C dc_H_takeTurn_91 rfl (fun _ => rfl) (show i < 5 from by omega) rfl m21 (show n21 < 24 from by omega) (fun x20 e20 => ?_)
              have g20 : x20.toInt = (I19 8 i n21).toInt := by rw [e20]
              refine th_aload_n C dc_H_takeTurn_92 rfl rfl ?_
              refine tq_getR C dc_H_takeTurn_93 cl_7 fd_H_195 rfl (show i < 5 from by omega) rfl ?_
              refine th_iload C dc_H_takeTurn_96 rfl ?_
              refine tq_ialdN C dc_H_takeTurn_98 rfl (fun _ => rfl) (show i < 5 from by omega) rfl m21 (show n21 < 24 from by omega) (fun x22 e22 => ?_)
              have g22 : x22.toInt = (I19 9 i n21).toInt := by rw [e22]
              refine th_aload_n C dc_H_takeTurn_99 rfl rfl ?_
              refine tq_getR C dc_H_takeTurn_100 cl_7 fd_H_198 rfl (show i < 5 from by omega) rfl ?_
              refine th_iload C dc_H_takeTurn_103 rfl ?_
              refine tq_ialdN C dc_H_takeTurn_105 rfl (fun _ => rfl) (show i < 5 from by omega) rfl m21 (show n21 < 24 from by omega) (fun x23 e23 => ?_)
              have g23 : x23.toInt = (I19 10 i n21).toInt := by rw [e23]
              refine tq_callVi C (c_H_perform l hl I19 i x20 x22 x23 hI19 (by omega) (by rw [e20, e22, e23]; exact hI19.2.1 i n21) (by omega)) ok_H_201 cl_0 (show 0 < 1 from by omega) rfl (Nat.le_of_ble_eq_true rfl) dc_H_takeTurn_106 rfl (fun x24 I24 p24 => ?_)
              obtain ⟨hI24, p24⟩ := p24
              refine th_istore (lv' := [(0, .inr (some (0, 0))), (1, .inr (some (6, i))), (2, .inr (some (7, i))), (3, .inl k), (4, .inl x16), (5, .inl x24)]) C dc_H_takeTurn_109 (by decide) rfl ?_
              refine th_iload C dc_H_takeTurn_111 rfl ?_
              refine tq_if_eq (tgt := 123) C dc_H_takeTurn_113 (by decide) rfl (fun c25 => ?_) (fun c25 => ?_)
              · refine th_aload_n C dc_H_takeTurn_123 rfl rfl ?_
                refine tq_getR C dc_H_takeTurn_124 cl_7 fd_H_192 rfl (show i < 5 from by omega) rfl ?_
                refine th_iload C dc_H_takeTurn_127 rfl ?_
                refine tq_ialdN C dc_H_takeTurn_129 rfl (fun _ => rfl) (show i < 5 from by omega) rfl m21 (show n21 < 24 from by omega) (fun x26 e26 => ?_)
                have g26 : x26.toInt = (I24 8 i n21).toInt := by rw [e26]
                refine th_bipush (v := 20) C dc_H_takeTurn_130 th_b_20 ?_
                refine tq_icmp_ne (tgt := 136) C dc_H_takeTurn_132 (by decide) rfl th_l_20 (fun c27 => ?_) (fun c27 => ?_)
                · refine tq_iinc (lv' := fun rr => [(0, .inr (some (0, 0))), (1, .inr (some (6, i))), (2, .inr (some (7, i))), (3, .inl rr), (4, .inl x16), (5, .inl x24)]) C dc_H_takeTurn_136 rfl (by decide) th_c_1 rfl th_l_1 (fun rr => rfl) (fun x28 e28 a28 => ?_)
                  refine th_goto (tgt := 39) C dc_H_takeTurn_139 (by decide) ?_
                  refine th_sub C (lv' := [(0, .inr (some (0, 0))), (1, .inr (some (6, i))), (2, .inr (some (7, i))), (3, .inl x28)]) (fun q hq => by simp at hq ⊢; rcases hq with rfl | rfl | rfl | rfl <;> simp) ?_
                  exact ih x28 I24 (th_mono hI24 (by omega) (by omega)) (by omega) (by omega)
                · exact th_vret C hQ dc_H_takeTurn_135 (by decide) (by decide) ⟨_, rfl, rfl, (by first | exact hI24 | exact th_mono hI24 (by omega) (by omega)), trivial⟩
              · refine th_aload_n C dc_H_takeTurn_116 rfl rfl ?_
                refine th_aload_n C dc_H_takeTurn_117 rfl rfl ?_
                refine th_iload C dc_H_takeTurn_118 rfl ?_
                refine tq_callVv C (c_H_raise l hl I24 i x24 hI24 (by omega)) ok_H_182 cl_0 (show 0 < 1 from by omega) rfl (Nat.le_of_ble_eq_true rfl) dc_H_takeTurn_120 rfl (fun I29 p29 => ?_)
                obtain ⟨hI29, p29⟩ := p29
                refine th_aload_n C dc_H_takeTurn_123 rfl rfl ?_
                refine tq_getR C dc_H_takeTurn_124 cl_7 fd_H_192 rfl (show i < 5 from by omega) rfl ?_
                refine th_iload C dc_H_takeTurn_127 rfl ?_
                refine tq_ialdN C dc_H_takeTurn_129 rfl (fun _ => rfl) (show i < 5 from by omega) rfl m21 (show n21 < 24 from by omega) (fun x30 e30 => ?_)
                have g30 : x30.toInt = (I29 8 i n21).toInt := by rw [e30]
                refine th_bipush (v := 20) C dc_H_takeTurn_130 th_b_20 ?_
                refine tq_icmp_ne (tgt := 136) C dc_H_takeTurn_132 (by decide) rfl th_l_20 (fun c31 => ?_) (fun c31 => ?_)
                · refine tq_iinc (lv' := fun rr => [(0, .inr (some (0, 0))), (1, .inr (some (6, i))), (2, .inr (some (7, i))), (3, .inl rr), (4, .inl x16), (5, .inl x24)]) C dc_H_takeTurn_136 rfl (by decide) th_c_1 rfl th_l_1 (fun rr => rfl) (fun x32 e32 a32 => ?_)
                  refine th_goto (tgt := 39) C dc_H_takeTurn_139 (by decide) ?_
                  refine th_sub C (lv' := [(0, .inr (some (0, 0))), (1, .inr (some (6, i))), (2, .inr (some (7, i))), (3, .inl x32)]) (fun q hq => by simp at hq ⊢; rcases hq with rfl | rfl | rfl | rfl <;> simp) ?_
                  exact ih x32 I29 (th_mono hI29 (by omega) (by omega)) (by omega) (by omega)
                · exact th_vret C hQ dc_H_takeTurn_135 (by decide) (by decide) ⟨_, rfl, rfl, (by first | exact hI29 | exact th_mono hI29 (by omega) (by omega)), trivial⟩
            · refine th_aload_n C dc_H_takeTurn_71 rfl rfl ?_
              refine th_aload_n C dc_H_takeTurn_72 rfl rfl ?_
              refine th_iconst (v := 0) C dc_H_takeTurn_73 th_c_0 ?_
              refine tq_callVv C (c_H_finish l hl I11 i ((0 : Int32)) hI11 (by have := th_l_0; omega)) ok_H_186 cl_0 (show 0 < 1 from by omega) rfl (Nat.le_of_ble_eq_true rfl) dc_H_takeTurn_74 rfl (fun I33 p33 => ?_)
              obtain ⟨hI33, p33⟩ := p33
              try simp only [th_l_0] at p33
              exact th_vret C hQ dc_H_takeTurn_77 (by decide) (by decide) ⟨_, rfl, rfl, (by first | exact hI33 | exact th_mono hI33 (by omega) (by omega)), trivial⟩
          · exact th_vret C hQ dc_H_takeTurn_55 (by decide) (by decide) ⟨_, rfl, rfl, (by first | exact hI11 | exact th_mono hI11 (by omega) (by omega)), trivial⟩
    exact L39 _ ((0 : Int32)) I6 (th_mono hI6 (by rw [th_l_0]; omega) (by rw [th_l_0]; omega)) (by have := th_l_0; omega) (Nat.lt_succ_self _)
  · refine th_aload_n C dc_H_takeTurn_25 rfl rfl ?_
    refine th_aload_n C dc_H_takeTurn_26 rfl rfl ?_
    refine th_bipush (v := 7) C dc_H_takeTurn_27 th_b_7 ?_
    refine tq_callVv C (c_H_raise l hl I6 i ((7 : Int32)) hI6 (by have := th_l_7; omega)) ok_H_182 cl_0 (show 0 < 1 from by omega) rfl (Nat.le_of_ble_eq_true rfl) dc_H_takeTurn_29 rfl (fun I34 p34 => ?_)
    obtain ⟨hI34, p34⟩ := p34
    try simp only [th_l_7] at p34
    refine th_aload_n C dc_H_takeTurn_32 rfl rfl ?_
    refine tq_getR C dc_H_takeTurn_33 cl_6 fd_H_63 rfl (show i < 5 from by omega) rfl ?_
    refine th_astore_n (lv' := [(0, .inr (some (0, 0))), (1, .inr (some (6, i))), (2, .inr (some (7, i)))]) C dc_H_takeTurn_36 rfl (by decide) rfl ?_
    refine th_iconst (v := 0) C dc_H_takeTurn_37 th_c_0 ?_
    refine th_istore_n (lv' := [(0, .inr (some (0, 0))), (1, .inr (some (6, i))), (2, .inr (some (7, i))), (3, .inl ((0 : Int32)))]) C dc_H_takeTurn_38 rfl (by decide) rfl ?_
    have L39 : ∀ (N : Nat) (k : Int32) (I35 : th_I), (th_Inv (K + k.toInt) sl Z I35) → (0 ≤ k.toInt ∧ k.toInt ≤ sl) → (sl - k.toInt).toNat < N → th_G l z 6 39 [(0, .inr (some (0, 0))), (1, .inr (some (6, i))), (2, .inr (some (7, i))), (3, .inl k)] [] (th_m I35) 0 0 := by
      intro N
      induction N with
      | zero => intro k I35 hI35 h1 hm; exact absurd hm (Nat.not_lt_zero _)
      | succ N ih =>
        intro k I35 hI35 h1 hm
        refine th_iload_n C dc_H_takeTurn_39 rfl rfl ?_
        refine th_aload_n C dc_H_takeTurn_40 rfl rfl ?_
        refine tq_getI C dc_H_takeTurn_41 cl_0 fd_H_39 rfl (show 0 < 1 from by omega) (fun x36 e36 => ?_)
        have g36 : x36.toInt = (I35 0 0 6).toInt := by rw [e36]
        have r36 : x36.toInt = sl ∨ 0 < 0 := by rw [e36]; exact hI35.1 0 0 6
        refine tq_icmp_ge (tgt := 142) C dc_H_takeTurn_44 (by decide) rfl rfl (fun c37 => ?_) (fun c37 => ?_)
        · exact th_vret C hQ dc_H_takeTurn_142 (by decide) (by decide) ⟨_, rfl, rfl, (by first | exact hI35 | exact th_mono hI35 (by omega) (by omega)), trivial⟩
        · refine th_aload_n C dc_H_takeTurn_47 rfl rfl ?_
          refine tq_getI C dc_H_takeTurn_48 cl_6 fd_H_106 rfl (show i < 5 from by omega) (fun x38 e38 => ?_)
          have g38 : x38.toInt = (I35 6 i 5).toInt := by rw [e38]
          refine th_iconst (v := 1) C dc_H_takeTurn_51 th_c_1 ?_
          refine tq_icmp_eq (tgt := 56) C dc_H_takeTurn_52 (by decide) rfl th_l_1 (fun c39 => ?_) (fun c39 => ?_)
          · refine th_aload_n C dc_H_takeTurn_56 rfl rfl ?_
            refine tq_getI C dc_H_takeTurn_57 cl_6 fd_H_109 rfl (show i < 5 from by omega) (fun x40 e40 => ?_)
            have g40 : x40.toInt = (I35 6 i 6).toInt := by rw [e40]
            have r40 : 0 ≤ x40.toInt ∧ x40.toInt ≤ 24 := by rw [e40]; exact hI35.1 6 i 6
            refine th_istore (lv' := [(0, .inr (some (0, 0))), (1, .inr (some (6, i))), (2, .inr (some (7, i))), (3, .inl k), (4, .inl x40)]) C dc_H_takeTurn_60 (by decide) rfl ?_
            refine th_iload C dc_H_takeTurn_62 rfl ?_
            refine th_aload_n C dc_H_takeTurn_64 rfl rfl ?_
            refine tq_getI C dc_H_takeTurn_65 cl_7 fd_H_67 rfl (show i < 5 from by omega) (fun x41 e41 => ?_)
            have g41 : x41.toInt = (I35 7 i 3).toInt := by rw [e41]
            have r41 : 0 ≤ x41.toInt ∧ x41.toInt ≤ 24 := by rw [e41]; exact hI35.1 7 i 3
            refine tq_icmp_lt (tgt := 78) C dc_H_takeTurn_68 (by decide) rfl rfl (fun c42 => ?_) (fun c42 => ?_)
            · refine th_aload_n C dc_H_takeTurn_78 rfl rfl ?_
              refine th_aload_n C dc_H_takeTurn_79 rfl rfl ?_
              refine tq_callVv C (c_H_countInstruction l hl I35 i hI35 (by omega) (by omega)) ok_H_189 cl_0 (show 0 < 1 from by omega) rfl (Nat.le_of_ble_eq_true rfl) dc_H_takeTurn_80 rfl (fun I43 p43 => ?_)
              obtain ⟨hI43, p43⟩ := p43
              refine th_aload_n C dc_H_takeTurn_83 rfl rfl ?_
              refine th_aload_n C dc_H_takeTurn_84 rfl rfl ?_
              refine th_aload_n C dc_H_takeTurn_85 rfl rfl ?_
              refine tq_getR C dc_H_takeTurn_86 cl_7 fd_H_192 rfl (show i < 5 from by omega) rfl ?_
              refine th_iload C dc_H_takeTurn_89 rfl ?_
              obtain ⟨n45, m45⟩ := th_nat (a := x40.toInt) (by omega)
              refine tq_ialdN C dc_H_takeTurn_91 rfl (fun _ => rfl) (show i < 5 from by omega) rfl m45 (show n45 < 24 from by omega) (fun x44 e44 => ?_)
              have g44 : x44.toInt = (I43 8 i n45).toInt := by rw [e44]
              refine th_aload_n C dc_H_takeTurn_92 rfl rfl ?_
              refine tq_getR C dc_H_takeTurn_93 cl_7 fd_H_195 rfl (show i < 5 from by omega) rfl ?_
              refine th_iload C dc_H_takeTurn_96 rfl ?_
              refine tq_ialdN C dc_H_takeTurn_98 rfl (fun _ => rfl) (show i < 5 from by omega) rfl m45 (show n45 < 24 from by omega) (fun x46 e46 => ?_)
              have g46 : x46.toInt = (I43 9 i n45).toInt := by rw [e46]
              refine th_aload_n C dc_H_takeTurn_99 rfl rfl ?_
              refine tq_getR C dc_H_takeTurn_100 cl_7 fd_H_198 rfl (show i < 5 from by omega) rfl ?_
              refine th_iload C dc_H_takeTurn_103 rfl ?_
              refine tq_ialdN C dc_H_takeTurn_105 rfl (fun _ => rfl) (show i < 5 from by omega) rfl m45 (show n45 < 24 from by omega) (fun x47 e47 => ?_)
              have g47 : x47.toInt = (I43 10 i n45).toInt := by rw [e47]
              refine tq_callVi C (c_H_perform l hl I43 i x44 x46 x47 hI43 (by omega) (by rw [e44, e46, e47]; exact hI43.2.1 i n45) (by omega)) ok_H_201 cl_0 (show 0 < 1 from by omega) rfl (Nat.le_of_ble_eq_true rfl) dc_H_takeTurn_106 rfl (fun x48 I48 p48 => ?_)
              obtain ⟨hI48, p48⟩ := p48
              refine th_istore (lv' := [(0, .inr (some (0, 0))), (1, .inr (some (6, i))), (2, .inr (some (7, i))), (3, .inl k), (4, .inl x40), (5, .inl x48)]) C dc_H_takeTurn_109 (by decide) rfl ?_
              refine th_iload C dc_H_takeTurn_111 rfl ?_
              refine tq_if_eq (tgt := 123) C dc_H_takeTurn_113 (by decide) rfl (fun c49 => ?_) (fun c49 => ?_)
              · refine th_aload_n C dc_H_takeTurn_123 rfl rfl ?_
                refine tq_getR C dc_H_takeTurn_124 cl_7 fd_H_192 rfl (show i < 5 from by omega) rfl ?_
                refine th_iload C dc_H_takeTurn_127 rfl ?_
                refine tq_ialdN C dc_H_takeTurn_129 rfl (fun _ => rfl) (show i < 5 from by omega) rfl m45 (show n45 < 24 from by omega) (fun x50 e50 => ?_)
                have g50 : x50.toInt = (I48 8 i n45).toInt := by rw [e50]
                refine th_bipush (v := 20) C dc_H_takeTurn_130 th_b_20 ?_
                refine tq_icmp_ne (tgt := 136) C dc_H_takeTurn_132 (by decide) rfl th_l_20 (fun c51 => ?_) (fun c51 => ?_)
                · refine tq_iinc (lv' := fun rr => [(0, .inr (some (0, 0))), (1, .inr (some (6, i))), (2, .inr (some (7, i))), (3, .inl rr), (4, .inl x40), (5, .inl x48)]) C dc_H_takeTurn_136 rfl (by decide) th_c_1 rfl th_l_1 (fun rr => rfl) (fun x52 e52 a52 => ?_)
                  refine th_goto (tgt := 39) C dc_H_takeTurn_139 (by decide) ?_
                  refine th_sub C (lv' := [(0, .inr (some (0, 0))), (1, .inr (some (6, i))), (2, .inr (some (7, i))), (3, .inl x52)]) (fun q hq => by simp at hq ⊢; rcases hq with rfl | rfl | rfl | rfl <;> simp) ?_
                  exact ih x52 I48 (th_mono hI48 (by omega) (by omega)) (by omega) (by omega)
                · exact th_vret C hQ dc_H_takeTurn_135 (by decide) (by decide) ⟨_, rfl, rfl, (by first | exact hI48 | exact th_mono hI48 (by omega) (by omega)), trivial⟩
              · refine th_aload_n C dc_H_takeTurn_116 rfl rfl ?_
                refine th_aload_n C dc_H_takeTurn_117 rfl rfl ?_
                refine th_iload C dc_H_takeTurn_118 rfl ?_
                refine tq_callVv C (c_H_raise l hl I48 i x48 hI48 (by omega)) ok_H_182 cl_0 (show 0 < 1 from by omega) rfl (Nat.le_of_ble_eq_true rfl) dc_H_takeTurn_120 rfl (fun I53 p53 => ?_)
                obtain ⟨hI53, p53⟩ := p53
                refine th_aload_n C dc_H_takeTurn_123 rfl rfl ?_
                refine tq_getR C dc_H_takeTurn_124 cl_7 fd_H_192 rfl (show i < 5 from by omega) rfl ?_
                refine th_iload C dc_H_takeTurn_127 rfl ?_
                refine tq_ialdN C dc_H_takeTurn_129 rfl (fun _ => rfl) (show i < 5 from by omega) rfl m45 (show n45 < 24 from by omega) (fun x54 e54 => ?_)
                have g54 : x54.toInt = (I53 8 i n45).toInt := by rw [e54]
                refine th_bipush (v := 20) C dc_H_takeTurn_130 th_b_20 ?_
                refine tq_icmp_ne (tgt := 136) C dc_H_takeTurn_132 (by decide) rfl th_l_20 (fun c55 => ?_) (fun c55 => ?_)
                · refine tq_iinc (lv' := fun rr => [(0, .inr (some (0, 0))), (1, .inr (some (6, i))), (2, .inr (some (7, i))), (3, .inl rr), (4, .inl x40), (5, .inl x48)]) C dc_H_takeTurn_136 rfl (by decide) th_c_1 rfl th_l_1 (fun rr => rfl) (fun x56 e56 a56 => ?_)
                  refine th_goto (tgt := 39) C dc_H_takeTurn_139 (by decide) ?_
                  refine th_sub C (lv' := [(0, .inr (some (0, 0))), (1, .inr (some (6, i))), (2, .inr (some (7, i))), (3, .inl x56)]) (fun q hq => by simp at hq ⊢; rcases hq with rfl | rfl | rfl | rfl <;> simp) ?_
                  exact ih x56 I53 (th_mono hI53 (by omega) (by omega)) (by omega) (by omega)
                · exact th_vret C hQ dc_H_takeTurn_135 (by decide) (by decide) ⟨_, rfl, rfl, (by first | exact hI53 | exact th_mono hI53 (by omega) (by omega)), trivial⟩
            · refine th_aload_n C dc_H_takeTurn_71 rfl rfl ?_
              refine th_aload_n C dc_H_takeTurn_72 rfl rfl ?_
              refine th_iconst (v := 0) C dc_H_takeTurn_73 th_c_0 ?_
              refine tq_callVv C (c_H_finish l hl I35 i ((0 : Int32)) hI35 (by have := th_l_0; omega)) ok_H_186 cl_0 (show 0 < 1 from by omega) rfl (Nat.le_of_ble_eq_true rfl) dc_H_takeTurn_74 rfl (fun I57 p57 => ?_)
              obtain ⟨hI57, p57⟩ := p57
              try simp only [th_l_0] at p57
              exact th_vret C hQ dc_H_takeTurn_77 (by decide) (by decide) ⟨_, rfl, rfl, (by first | exact hI57 | exact th_mono hI57 (by omega) (by omega)), trivial⟩
          · exact th_vret C hQ dc_H_takeTurn_55 (by decide) (by decide) ⟨_, rfl, rfl, (by first | exact hI35 | exact th_mono hI35 (by omega) (by omega)), trivial⟩
    exact L39 _ ((0 : Int32)) I34 (th_mono hI34 (by rw [th_l_0]; omega) (by rw [th_l_0]; omega)) (by have := th_l_0; omega) (Nat.lt_succ_self _)

