set_option maxRecDepth 100000 in
set_option maxHeartbeats 4000000 in
theorem o_O_is (l : Launch) (hl : l.stackTraces = false) (I : th_I) (v : Int32) (a : Int32) (b : Int32) : th_F l yn_O_is cb_O_is 3 (some .boolean) { frames := 0, cells := 0, slots := 0, locals := 0 } [.inl v, .inl a, .inl b] (th_m I) (th_rp I (fun x => x.toInt = 1 ∧ a.toInt ≤ v.toInt ∧ v.toInt ≤ b.toInt ∨ x.toInt = 0 ∧ ¬ (a.toInt ≤ v.toInt ∧ v.toInt ≤ b.toInt))) := by
  refine th_of hl (by decide +kernel) (Nat.le_of_ble_eq_true rfl) (fun z C hQ hN => ?_)
  show th_G l z 3 0 [(0, .inl v), (1, .inl a), (2, .inl b)] [] (th_m I) 0 0
  refine th_iload_n C dc_O_is_0 rfl rfl ?_
  refine th_iload_n C dc_O_is_1 rfl rfl ?_
  refine tq_icmp_lt (tgt := 14) C dc_O_is_2 (by decide) rfl rfl (fun c1 => ?_) (fun c1 => ?_)
  · refine th_iconst (v := 0) C dc_O_is_14 th_c_0 ?_
    exact th_zret C hQ dc_O_is_15 (rfl) (by decide) (by decide) ⟨_, rfl, rfl, (by have := th_l_0; first | omega | (dsimp only; omega))⟩
  · refine th_iload_n C dc_O_is_5 rfl rfl ?_
    refine th_iload_n C dc_O_is_6 rfl rfl ?_
    refine tq_icmp_gt (tgt := 14) C dc_O_is_7 (by decide) rfl rfl (fun c2 => ?_) (fun c2 => ?_)
    · refine th_iconst (v := 0) C dc_O_is_14 th_c_0 ?_
      exact th_zret C hQ dc_O_is_15 (rfl) (by decide) (by decide) ⟨_, rfl, rfl, (by have := th_l_0; first | omega | (dsimp only; omega))⟩
    · refine th_iconst (v := 1) C dc_O_is_10 th_c_1 ?_
      refine th_goto (tgt := 15) C dc_O_is_11 (by decide) ?_
      exact th_zret C hQ dc_O_is_15 (rfl) (by decide) (by decide) ⟨_, rfl, rfl, (by have := th_l_1; first | omega | (dsimp only; omega))⟩

set_option maxRecDepth 100000 in
set_option maxHeartbeats 4000000 in
theorem o_O_refuse (l : Launch) (hl : l.stackTraces = false) {K sl : Int} {Z : th_I} (I : th_I) (c : Int32) (hI : th_OI K sl Z I) : th_F l yn_O_refuse cb_O_refuse 2 (some .int) { frames := 0, cells := 0, slots := 0, locals := 0 } [.inr (some (20, 0)), .inl c] (th_m I) (th_ri (fun x J => th_OI K sl Z J ∧ (x.toInt = 0 ∧ (J 20 0 34).toInt = c.toInt))) := by
  refine th_of hl (by decide +kernel) (Nat.le_of_ble_eq_true rfl) (fun z C hQ hN => ?_)
  show th_G l z 2 0 [(0, .inr (some (20, 0))), (1, .inl c)] [] (th_m I) 0 0
  have hb := hI.2.2.1
  refine th_aload_n C dc_O_refuse_0 rfl rfl ?_
  refine th_iload_n C dc_O_refuse_1 rfl rfl ?_
  refine tq_putI C dc_O_refuse_2 cl_20 fd_O_114 rfl (show 0 < 1 from by omega) rfl rfl ?_
  refine th_gen (P := fun J => th_OI K sl Z J ∧ J = th_u I 20 0 34 c) ⟨ro_put hI rfl trivial, rfl⟩ (fun I1 hI1 => ?_)
  obtain ⟨hI1, u1⟩ := hI1
  have e1 : c = I1 20 0 34 := by rw [u1, th_u_eq]
  have g1 : c.toInt = (I1 20 0 34).toInt := by rw [← e1]
  refine th_iconst (v := 0) C dc_O_refuse_5 th_c_0 ?_
  exact th_iret C hQ dc_O_refuse_6 (by decide) (by decide) ⟨_, _, rfl, rfl, hI1, (by have := th_l_0; first | omega | (dsimp only; omega))⟩

set_option maxRecDepth 100000 in
set_option maxHeartbeats 4000000 in
theorem o_O_thrown (l : Launch) (hl : l.stackTraces = false) (I : th_I) : th_F l yn_O_thrown cb_O_thrown 1 (some .int) { frames := 0, cells := 0, slots := 0, locals := 0 } [.inr (some (20, 0))] (th_m I) (th_rp I (fun x => x.toInt = (I 20 0 34).toInt)) := by
  refine th_of hl (by decide +kernel) (Nat.le_of_ble_eq_true rfl) (fun z C hQ hN => ?_)
  show th_G l z 1 0 [(0, .inr (some (20, 0)))] [] (th_m I) 0 0
  refine th_aload_n C dc_O_thrown_0 rfl rfl ?_
  refine tq_getI C dc_O_thrown_1 cl_20 fd_O_114 rfl (show 0 < 1 from by omega) (fun x1 e1 => ?_)
  have g1 : x1.toInt = (I 20 0 34).toInt := by rw [e1]
  exact th_iret C hQ dc_O_thrown_4 (by decide) (by decide) ⟨_, rfl, rfl, (by first | omega | (dsimp only; omega))⟩

set_option maxRecDepth 100000 in
set_option maxHeartbeats 4000000 in
theorem o_O_alive (l : Launch) (hl : l.stackTraces = false) {K sl : Int} {Z : th_I} (I : th_I) (t : Int32) (tn : Nat) (hI : th_OI K sl Z I) (htn : (tn : Int) = t.toInt) (ht : 0 ≤ t.toInt ∧ t.toInt ≤ 4) : th_F l yn_O_alive cb_O_alive 2 (some .boolean) { frames := 0, cells := 0, slots := 0, locals := 0 } [.inr (some (20, 0)), .inl t] (th_m I) (th_rp I (fun x => x.toInt = 1 ∧ (I 32 0 tn).toInt ≠ 0 ∧ (I 32 0 tn).toInt ≠ 5 ∨ x.toInt = 0 ∧ ((I 32 0 tn).toInt = 0 ∨ (I 32 0 tn).toInt = 5))) := by
  refine th_of hl (by decide +kernel) (Nat.le_of_ble_eq_true rfl) (fun z C hQ hN => ?_)
  show th_G l z 2 0 [(0, .inr (some (20, 0))), (1, .inl t)] [] (th_m I) 0 0
  have hb := hI.2.2.1
  refine th_aload_n C dc_O_alive_0 rfl rfl ?_
  refine tq_getR C dc_O_alive_1 cl_20 fd_O_43 rfl (show 0 < 1 from by omega) rfl ?_
  refine th_iload_n C dc_O_alive_4 rfl rfl ?_
  refine tq_ialdN C dc_O_alive_5 rfl (fun _ => rfl) (show 0 < 1 from by omega) rfl htn (show tn < 5 from by omega) (fun x1 e1 => ?_)
  have g1 : x1.toInt = (I 32 0 tn).toInt := by rw [e1]
  refine tq_if_eq (tgt := 23) C dc_O_alive_6 (by decide) rfl (fun c2 => ?_) (fun c2 => ?_)
  · refine th_iconst (v := 0) C dc_O_alive_23 th_c_0 ?_
    exact th_zret C hQ dc_O_alive_24 (rfl) (by decide) (by decide) ⟨_, rfl, rfl, (by have := th_l_0; first | omega | (dsimp only; omega))⟩
  · refine th_aload_n C dc_O_alive_9 rfl rfl ?_
    refine tq_getR C dc_O_alive_10 cl_20 fd_O_43 rfl (show 0 < 1 from by omega) rfl ?_
    refine th_iload_n C dc_O_alive_13 rfl rfl ?_
    refine tq_ialdE C dc_O_alive_14 rfl (fun _ => rfl) (show 0 < 1 from by omega) rfl htn (show tn < 5 from by omega) e1 ?_
    refine th_iconst (v := 5) C dc_O_alive_15 th_c_5 ?_
    refine tq_icmp_eq (tgt := 23) C dc_O_alive_16 (by decide) rfl th_l_5 (fun c4 => ?_) (fun c4 => ?_)
    · refine th_iconst (v := 0) C dc_O_alive_23 th_c_0 ?_
      exact th_zret C hQ dc_O_alive_24 (rfl) (by decide) (by decide) ⟨_, rfl, rfl, (by have := th_l_0; first | omega | (dsimp only; omega))⟩
    · refine th_iconst (v := 1) C dc_O_alive_19 th_c_1 ?_
      refine th_goto (tgt := 24) C dc_O_alive_20 (by decide) ?_
      exact th_zret C hQ dc_O_alive_24 (rfl) (by decide) (by decide) ⟨_, rfl, rfl, (by have := th_l_1; first | omega | (dsimp only; omega))⟩

set_option maxRecDepth 100000 in
set_option maxHeartbeats 4000000 in
theorem o_O_bound (l : Launch) (hl : l.stackTraces = false) {K sl : Int} {Z : th_I} (I : th_I) (t : Int32) (s : Int32) (tn : Nat) (hI : th_OI K sl Z I) (htn : (tn : Int) = t.toInt) (ht : 0 ≤ t.toInt ∧ t.toInt ≤ 4) : th_F l yn_O_bound cb_O_bound 4 (some .int) { frames := 0, cells := 0, slots := 0, locals := 0 } [.inr (some (20, 0)), .inl t, .inl s] (th_m I) (th_rp I (fun x => -1 ≤ x.toInt ∧ x.toInt < 12 * t.toInt + 12 ∧ (x.toInt < 0 ∨ 12 * t.toInt ≤ x.toInt ∧ x.toInt < 12 * t.toInt + (I 28 0 tn).toInt))) := by
  refine th_of hl (by decide +kernel) (Nat.le_of_ble_eq_true rfl) (fun z C hQ hN => ?_)
  show th_G l z 4 0 [(0, .inr (some (20, 0))), (1, .inl t), (2, .inl s)] [] (th_m I) 0 0
  have hb := hI.2.2.1
  refine th_aload_n C dc_O_bound_0 rfl rfl ?_
  refine tq_getR C dc_O_bound_1 cl_20 fd_O_31 rfl (show 0 < 1 from by omega) rfl ?_
  refine th_iload_n C dc_O_bound_4 rfl rfl ?_
  refine tq_ialdN C dc_O_bound_5 rfl (fun _ => rfl) (show 0 < 1 from by omega) rfl htn (show tn < 5 from by omega) (fun x1 e1 => ?_)
  have g1 : x1.toInt = (I 28 0 tn).toInt := by rw [e1]
  have r1 : 0 ≤ x1.toInt ∧ x1.toInt ≤ 12 := by rw [e1]; exact hI.1 28 0 tn
  refine th_iconst (v := 1) C dc_O_bound_6 th_c_1 ?_
  refine tq_isub C dc_O_bound_7 rfl th_l_1 (fun x2 e2 a2 => ?_)
  refine th_istore_n (lv' := [(0, .inr (some (20, 0))), (1, .inl t), (2, .inl s), (3, .inl x2)]) C dc_O_bound_8 rfl (by decide) rfl ?_
  have L9 : ∀ (N : Nat) (k : Int32), (-1 ≤ k.toInt ∧ k.toInt ≤ 11 ∧ k.toInt < (I 28 0 tn).toInt) → (k.toInt + 1).toNat < N → th_G l z 4 9 [(0, .inr (some (20, 0))), (1, .inl t), (2, .inl s), (3, .inl k)] [] (th_m I) 0 0 := by
    intro N
    induction N with
    | zero => intro k h1 hm; exact absurd hm (Nat.not_lt_zero _)
    | succ N ih =>
      intro k h1 hm
      refine th_iload_n C dc_O_bound_9 rfl rfl ?_
      refine tq_if_lt (tgt := 41) C dc_O_bound_10 (by decide) rfl (fun c4 => ?_) (fun c4 => ?_)
      · refine th_iconst (v := -1) C dc_O_bound_41 th_c_m1 ?_
        exact th_iret C hQ dc_O_bound_42 (by decide) (by decide) ⟨_, rfl, rfl, (by have := th_l_m1; first | omega | (dsimp only; omega))⟩
      · refine th_aload_n C dc_O_bound_13 rfl rfl ?_
        refine tq_getR C dc_O_bound_14 cl_20 fd_O_25 rfl (show 0 < 1 from by omega) rfl ?_
        refine th_bipush (v := 12) C dc_O_bound_17 th_b_12 ?_
        refine th_iload_n C dc_O_bound_19 rfl rfl ?_
        refine tq_imul C dc_O_bound_20 th_l_12 rfl (fun x5 e5 a5 => ?_)
        refine th_iload_n C dc_O_bound_21 rfl rfl ?_
        refine tq_iadd C dc_O_bound_22 rfl rfl (fun x6 e6 a6 => ?_)
        obtain ⟨n8, m8⟩ := th_nat (a := x6.toInt) (by omega)
        refine tq_ialdN C dc_O_bound_23 rfl (fun _ => rfl) (show 0 < 1 from by omega) rfl m8 (show n8 < 60 from by omega) (fun x7 e7 => ?_)
        have g7 : x7.toInt = (I 26 0 n8).toInt := by rw [e7]
        refine th_iload_n C dc_O_bound_24 rfl rfl ?_
        refine tq_icmp_ne (tgt := 35) C dc_O_bound_25 (by decide) rfl rfl (fun c9 => ?_) (fun c9 => ?_)
        · refine tq_iinc (lv' := fun rr => [(0, .inr (some (20, 0))), (1, .inl t), (2, .inl s), (3, .inl rr)]) C dc_O_bound_35 rfl (by decide) th_c_m1 rfl th_l_m1 (fun rr => rfl) (fun x10 e10 a10 => ?_)
          refine th_goto (tgt := 9) C dc_O_bound_38 (by decide) ?_
          exact ih x10 (by omega) (by omega)
        · refine th_bipush (v := 12) C dc_O_bound_28 th_b_12 ?_
          refine th_iload_n C dc_O_bound_30 rfl rfl ?_
          refine tq_imul C dc_O_bound_31 th_l_12 rfl (fun x11 e11 a11 => ?_)
          refine th_iload_n C dc_O_bound_32 rfl rfl ?_
          refine tq_iadd C dc_O_bound_33 rfl rfl (fun x12 e12 a12 => ?_)
          exact th_iret C hQ dc_O_bound_34 (by decide) (by decide) ⟨_, rfl, rfl, (by first | omega | (dsimp only; omega))⟩
  exact L9 _ x2 (by omega) (Nat.lt_succ_self _)

set_option maxRecDepth 100000 in
set_option maxHeartbeats 4000000 in
theorem o_O_get (l : Launch) (hl : l.stackTraces = false) {K sl : Int} {Z : th_I} (I : th_I) (t : Int32) (s : Int32) (hI : th_OI K sl Z I) (ht : 0 ≤ t.toInt ∧ t.toInt ≤ 4) (hs : 0 ≤ s.toInt ∧ s.toInt ≤ 3) : th_F l yn_O_get cb_O_get 4 (some .int) { frames := 1, cells := 0, slots := 0, locals := 23 } [.inr (some (20, 0)), .inl t, .inl s] (th_m I) (th_rp I (fun x => True)) := by
  refine th_of hl (by decide +kernel) (Nat.le_of_ble_eq_true rfl) (fun z C hQ hN => ?_)
  show th_G l z 4 0 [(0, .inr (some (20, 0))), (1, .inl t), (2, .inl s)] [] (th_m I) 0 0
  have hb := hI.2.2.1
  refine th_aload_n C dc_O_get_0 rfl rfl ?_
  refine th_iload_n C dc_O_get_1 rfl rfl ?_
  refine th_iload_n C dc_O_get_2 rfl rfl ?_
  obtain ⟨n1, m1⟩ := th_nat (a := t.toInt) (by omega)
  refine tq_callVp C (o_O_bound l hl I t s n1 hI m1 (by omega)) ok_O_132 cl_20 (show 0 < 1 from by omega) rfl (Nat.le_of_ble_eq_true rfl) dc_O_get_3 rfl (fun x2 p2 => ?_)
  refine th_istore_n (lv' := [(0, .inr (some (20, 0))), (1, .inl t), (2, .inl s), (3, .inl x2)]) C dc_O_get_6 rfl (by decide) rfl ?_
  refine th_iload_n C dc_O_get_7 rfl rfl ?_
  refine tq_if_ge (tgt := 20) C dc_O_get_8 (by decide) rfl (fun c3 => ?_) (fun c3 => ?_)
  · refine th_aload_n C dc_O_get_20 rfl rfl ?_
    refine tq_getR C dc_O_get_21 cl_20 fd_O_28 rfl (show 0 < 1 from by omega) rfl ?_
    refine th_iload_n C dc_O_get_24 rfl rfl ?_
    obtain ⟨n5, m5⟩ := th_nat (a := x2.toInt) (by omega)
    refine tq_ialdN C dc_O_get_25 rfl (fun _ => rfl) (show 0 < 1 from by omega) rfl m5 (show n5 < 60 from by omega) (fun x4 e4 => ?_)
    have g4 : x4.toInt = (I 27 0 n5).toInt := by rw [e4]
    exact th_iret C hQ dc_O_get_26 (by decide) (by decide) ⟨_, rfl, rfl, trivial⟩
  · refine th_aload_n C dc_O_get_11 rfl rfl ?_
    refine tq_getR C dc_O_get_12 cl_20 fd_O_22 rfl (show 0 < 1 from by omega) rfl ?_
    refine th_iload_n C dc_O_get_15 rfl rfl ?_
    obtain ⟨n7, m7⟩ := th_nat (a := s.toInt) (by omega)
    refine tq_ialdN C dc_O_get_16 rfl (fun _ => rfl) (show 0 < 1 from by omega) rfl m7 (show n7 < 4 from by omega) (fun x6 e6 => ?_)
    have g6 : x6.toInt = (I 25 0 n7).toInt := by rw [e6]
    refine th_goto (tgt := 26) C dc_O_get_17 (by decide) ?_
    exact th_iret C hQ dc_O_get_26 (by decide) (by decide) ⟨_, rfl, rfl, trivial⟩

set_option maxRecDepth 100000 in
set_option maxHeartbeats 4000000 in
theorem o_O_put (l : Launch) (hl : l.stackTraces = false) {K sl : Int} {Z : th_I} (I : th_I) (t : Int32) (s : Int32) (v : Int32) (hI : th_OI K sl Z I) (ht : 0 ≤ t.toInt ∧ t.toInt ≤ 4) (hs : 0 ≤ s.toInt ∧ s.toInt ≤ 3) : th_F l yn_O_put cb_O_put 5 none { frames := 1, cells := 0, slots := 0, locals := 23 } [.inr (some (20, 0)), .inl t, .inl s, .inl v] (th_m I) (th_rv (fun J => th_OI K sl Z J ∧ (ro_fr I J))) := by
  refine th_of hl (by decide +kernel) (Nat.le_of_ble_eq_true rfl) (fun z C hQ hN => ?_)
  show th_G l z 5 0 [(0, .inr (some (20, 0))), (1, .inl t), (2, .inl s), (3, .inl v)] [] (th_m I) 0 0
  have hb := hI.2.2.1
  refine th_aload_n C dc_O_put_0 rfl rfl ?_
  refine th_iload_n C dc_O_put_1 rfl rfl ?_
  refine th_iload_n C dc_O_put_2 rfl rfl ?_
  obtain ⟨n1, m1⟩ := th_nat (a := t.toInt) (by omega)
  refine tq_callVp C (o_O_bound l hl I t s n1 hI m1 (by omega)) ok_O_132 cl_20 (show 0 < 1 from by omega) rfl (Nat.le_of_ble_eq_true rfl) dc_O_put_3 rfl (fun x2 p2 => ?_)
  refine th_istore (lv' := [(0, .inr (some (20, 0))), (1, .inl t), (2, .inl s), (3, .inl v), (4, .inl x2)]) C dc_O_put_6 (by decide) rfl ?_
  refine th_iload C dc_O_put_8 rfl ?_
  refine tq_if_ge (tgt := 23) C dc_O_put_10 (by decide) rfl (fun c3 => ?_) (fun c3 => ?_)
  · refine th_aload_n C dc_O_put_23 rfl rfl ?_
    refine tq_getR C dc_O_put_24 cl_20 fd_O_28 rfl (show 0 < 1 from by omega) rfl ?_
    refine th_iload C dc_O_put_27 rfl ?_
    refine th_iload_n C dc_O_put_29 rfl rfl ?_
    obtain ⟨n4, m4⟩ := th_nat (a := x2.toInt) (by omega)
    refine tq_iastN C dc_O_put_30 rfl (fun _ => rfl) (show 0 < 1 from by omega) rfl m4 (show n4 < 60 from by omega) ?_
    refine th_gen (P := fun J => th_OI K sl Z J ∧ J = th_u I 27 0 n4 v) ⟨ro_put hI rfl trivial, rfl⟩ (fun I5 hI5 => ?_)
    obtain ⟨hI5, u5⟩ := hI5
    have e5 : v = I5 27 0 n4 := by rw [u5, th_u_eq]
    have g5 : v.toInt = (I5 27 0 n4).toInt := by rw [← e5]
    exact th_vret C hQ dc_O_put_31 (by decide) (by decide) ⟨_, rfl, rfl, hI5, (fun t' i' k' a b => by rw [u5, th_u_tag (by first | exact a | exact b)])⟩
  · refine th_aload_n C dc_O_put_13 rfl rfl ?_
    refine tq_getR C dc_O_put_14 cl_20 fd_O_22 rfl (show 0 < 1 from by omega) rfl ?_
    refine th_iload_n C dc_O_put_17 rfl rfl ?_
    refine th_iload_n C dc_O_put_18 rfl rfl ?_
    obtain ⟨n6, m6⟩ := th_nat (a := s.toInt) (by omega)
    refine tq_iastN C dc_O_put_19 rfl (fun _ => rfl) (show 0 < 1 from by omega) rfl m6 (show n6 < 4 from by omega) ?_
    refine th_gen (P := fun J => th_OI K sl Z J ∧ J = th_u I 25 0 n6 v) ⟨ro_put hI rfl trivial, rfl⟩ (fun I7 hI7 => ?_)
    obtain ⟨hI7, u7⟩ := hI7
    have e7 : v = I7 25 0 n6 := by rw [u7, th_u_eq]
    have g7 : v.toInt = (I7 25 0 n6).toInt := by rw [← e7]
    refine th_goto (tgt := 31) C dc_O_put_20 (by decide) ?_
    exact th_vret C hQ dc_O_put_31 (by decide) (by decide) ⟨_, rfl, rfl, hI7, (fun t' i' k' a b => by rw [u7, th_u_tag (by first | exact a | exact b)])⟩

set_option maxRecDepth 100000 in
set_option maxHeartbeats 4000000 in
theorem o_O_boundR (l : Launch) (hl : l.stackTraces = false) {K sl : Int} {Z : th_I} (I : th_I) (t : Int32) (s : Int32) (tn : Nat) (hI : ro_rg K sl Z I) (htn : (tn : Int) = t.toInt) (ht : 0 ≤ t.toInt ∧ t.toInt ≤ 4) : th_F l yn_O_bound cb_O_bound 4 (some .int) { frames := 0, cells := 0, slots := 0, locals := 0 } [.inr (some (20, 0)), .inl t, .inl s] (th_m I) (th_rp I (fun x => -1 ≤ x.toInt ∧ x.toInt < 12 * t.toInt + 12 ∧ (x.toInt < 0 ∨ 12 * t.toInt ≤ x.toInt ∧ x.toInt < 12 * t.toInt + (I 28 0 tn).toInt))) := by
  refine th_of hl (by decide +kernel) (Nat.le_of_ble_eq_true rfl) (fun z C hQ hN => ?_)
  show th_G l z 4 0 [(0, .inr (some (20, 0))), (1, .inl t), (2, .inl s)] [] (th_m I) 0 0
  have hb := hI.2.2.1
  refine th_aload_n C dc_O_bound_0 rfl rfl ?_
  refine tq_getR C dc_O_bound_1 cl_20 fd_O_31 rfl (show 0 < 1 from by omega) rfl ?_
  refine th_iload_n C dc_O_bound_4 rfl rfl ?_
  refine tq_ialdN C dc_O_bound_5 rfl (fun _ => rfl) (show 0 < 1 from by omega) rfl htn (show tn < 5 from by omega) (fun x1 e1 => ?_)
  have g1 : x1.toInt = (I 28 0 tn).toInt := by rw [e1]
  have r1 : 0 ≤ x1.toInt ∧ x1.toInt ≤ 12 := by rw [e1]; exact hI.1 28 0 tn
  refine th_iconst (v := 1) C dc_O_bound_6 th_c_1 ?_
  refine tq_isub C dc_O_bound_7 rfl th_l_1 (fun x2 e2 a2 => ?_)
  refine th_istore_n (lv' := [(0, .inr (some (20, 0))), (1, .inl t), (2, .inl s), (3, .inl x2)]) C dc_O_bound_8 rfl (by decide) rfl ?_
  have L9 : ∀ (N : Nat) (k : Int32), (-1 ≤ k.toInt ∧ k.toInt ≤ 11 ∧ k.toInt < (I 28 0 tn).toInt) → (k.toInt + 1).toNat < N → th_G l z 4 9 [(0, .inr (some (20, 0))), (1, .inl t), (2, .inl s), (3, .inl k)] [] (th_m I) 0 0 := by
    intro N
    induction N with
    | zero => intro k h1 hm; exact absurd hm (Nat.not_lt_zero _)
    | succ N ih =>
      intro k h1 hm
      refine th_iload_n C dc_O_bound_9 rfl rfl ?_
      refine tq_if_lt (tgt := 41) C dc_O_bound_10 (by decide) rfl (fun c4 => ?_) (fun c4 => ?_)
      · refine th_iconst (v := -1) C dc_O_bound_41 th_c_m1 ?_
        exact th_iret C hQ dc_O_bound_42 (by decide) (by decide) ⟨_, rfl, rfl, (by have := th_l_m1; first | omega | (dsimp only; omega))⟩
      · refine th_aload_n C dc_O_bound_13 rfl rfl ?_
        refine tq_getR C dc_O_bound_14 cl_20 fd_O_25 rfl (show 0 < 1 from by omega) rfl ?_
        refine th_bipush (v := 12) C dc_O_bound_17 th_b_12 ?_
        refine th_iload_n C dc_O_bound_19 rfl rfl ?_
        refine tq_imul C dc_O_bound_20 th_l_12 rfl (fun x5 e5 a5 => ?_)
        refine th_iload_n C dc_O_bound_21 rfl rfl ?_
        refine tq_iadd C dc_O_bound_22 rfl rfl (fun x6 e6 a6 => ?_)
        obtain ⟨n8, m8⟩ := th_nat (a := x6.toInt) (by omega)
        refine tq_ialdN C dc_O_bound_23 rfl (fun _ => rfl) (show 0 < 1 from by omega) rfl m8 (show n8 < 60 from by omega) (fun x7 e7 => ?_)
        have g7 : x7.toInt = (I 26 0 n8).toInt := by rw [e7]
        refine th_iload_n C dc_O_bound_24 rfl rfl ?_
        refine tq_icmp_ne (tgt := 35) C dc_O_bound_25 (by decide) rfl rfl (fun c9 => ?_) (fun c9 => ?_)
        · refine tq_iinc (lv' := fun rr => [(0, .inr (some (20, 0))), (1, .inl t), (2, .inl s), (3, .inl rr)]) C dc_O_bound_35 rfl (by decide) th_c_m1 rfl th_l_m1 (fun rr => rfl) (fun x10 e10 a10 => ?_)
          refine th_goto (tgt := 9) C dc_O_bound_38 (by decide) ?_
          exact ih x10 (by omega) (by omega)
        · refine th_bipush (v := 12) C dc_O_bound_28 th_b_12 ?_
          refine th_iload_n C dc_O_bound_30 rfl rfl ?_
          refine tq_imul C dc_O_bound_31 th_l_12 rfl (fun x11 e11 a11 => ?_)
          refine th_iload_n C dc_O_bound_32 rfl rfl ?_
          refine tq_iadd C dc_O_bound_33 rfl rfl (fun x12 e12 a12 => ?_)
          exact th_iret C hQ dc_O_bound_34 (by decide) (by decide) ⟨_, rfl, rfl, (by first | omega | (dsimp only; omega))⟩
  exact L9 _ x2 (by omega) (Nat.lt_succ_self _)

set_option maxRecDepth 100000 in
set_option maxHeartbeats 4000000 in
theorem o_O_putR (l : Launch) (hl : l.stackTraces = false) {K sl : Int} {Z : th_I} (I : th_I) (t : Int32) (s : Int32) (v : Int32) (hI : ro_rg K sl Z I) (ht : 0 ≤ t.toInt ∧ t.toInt ≤ 4) (hs : 0 ≤ s.toInt ∧ s.toInt ≤ 3) : th_F l yn_O_put cb_O_put 5 none { frames := 1, cells := 0, slots := 0, locals := 23 } [.inr (some (20, 0)), .inl t, .inl s, .inl v] (th_m I) (th_rv (fun J => ro_rg K sl Z J ∧ (True))) := by
  refine th_of hl (by decide +kernel) (Nat.le_of_ble_eq_true rfl) (fun z C hQ hN => ?_)
  show th_G l z 5 0 [(0, .inr (some (20, 0))), (1, .inl t), (2, .inl s), (3, .inl v)] [] (th_m I) 0 0
  have hb := hI.2.2.1
  refine th_aload_n C dc_O_put_0 rfl rfl ?_
  refine th_iload_n C dc_O_put_1 rfl rfl ?_
  refine th_iload_n C dc_O_put_2 rfl rfl ?_
  obtain ⟨n1, m1⟩ := th_nat (a := t.toInt) (by omega)
  refine tq_callVp C (o_O_boundR l hl I t s n1 hI m1 (by omega)) ok_O_132 cl_20 (show 0 < 1 from by omega) rfl (Nat.le_of_ble_eq_true rfl) dc_O_put_3 rfl (fun x2 p2 => ?_)
  refine th_istore (lv' := [(0, .inr (some (20, 0))), (1, .inl t), (2, .inl s), (3, .inl v), (4, .inl x2)]) C dc_O_put_6 (by decide) rfl ?_
  refine th_iload C dc_O_put_8 rfl ?_
  refine tq_if_ge (tgt := 23) C dc_O_put_10 (by decide) rfl (fun c3 => ?_) (fun c3 => ?_)
  · refine th_aload_n C dc_O_put_23 rfl rfl ?_
    refine tq_getR C dc_O_put_24 cl_20 fd_O_28 rfl (show 0 < 1 from by omega) rfl ?_
    refine th_iload C dc_O_put_27 rfl ?_
    refine th_iload_n C dc_O_put_29 rfl rfl ?_
    obtain ⟨n4, m4⟩ := th_nat (a := x2.toInt) (by omega)
    refine tq_iastN C dc_O_put_30 rfl (fun _ => rfl) (show 0 < 1 from by omega) rfl m4 (show n4 < 60 from by omega) ?_
    refine th_gen (P := fun J => ro_rg K sl Z J ∧ J = th_u I 27 0 n4 v) ⟨ro_rgput hI (by first | exact Or.inl rfl | exact Or.inr rfl), rfl⟩ (fun I5 hI5 => ?_)
    obtain ⟨hI5, u5⟩ := hI5
    have e5 : v = I5 27 0 n4 := by rw [u5, th_u_eq]
    have g5 : v.toInt = (I5 27 0 n4).toInt := by rw [← e5]
    exact th_vret C hQ dc_O_put_31 (by decide) (by decide) ⟨_, rfl, rfl, hI5, trivial⟩
  · refine th_aload_n C dc_O_put_13 rfl rfl ?_
    refine tq_getR C dc_O_put_14 cl_20 fd_O_22 rfl (show 0 < 1 from by omega) rfl ?_
    refine th_iload_n C dc_O_put_17 rfl rfl ?_
    refine th_iload_n C dc_O_put_18 rfl rfl ?_
    obtain ⟨n6, m6⟩ := th_nat (a := s.toInt) (by omega)
    refine tq_iastN C dc_O_put_19 rfl (fun _ => rfl) (show 0 < 1 from by omega) rfl m6 (show n6 < 4 from by omega) ?_
    refine th_gen (P := fun J => ro_rg K sl Z J ∧ J = th_u I 25 0 n6 v) ⟨ro_rgput hI (by first | exact Or.inl rfl | exact Or.inr rfl), rfl⟩ (fun I7 hI7 => ?_)
    obtain ⟨hI7, u7⟩ := hI7
    have e7 : v = I7 25 0 n6 := by rw [u7, th_u_eq]
    have g7 : v.toInt = (I7 25 0 n6).toInt := by rw [← e7]
    refine th_goto (tgt := 31) C dc_O_put_20 (by decide) ?_
    exact th_vret C hQ dc_O_put_31 (by decide) (by decide) ⟨_, rfl, rfl, hI7, trivial⟩

