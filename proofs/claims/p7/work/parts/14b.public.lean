set_option maxRecDepth 100000 in
set_option maxHeartbeats 4000000 in
theorem c_H_run (l : Launch) (hl : l.stackTraces = false) {K sl : Int} {Z : th_I} (I : th_I) (n : Int32) (hI : th_Inv K sl Z I) (hK : K + 800 ≤ 1000000) : th_F l yn_H_run cb_H_run 5 (some .int) { frames := 7, cells := 1, slots := 6, locals := 142 } [.inr (some (0, 0)), .inl n] (th_m I) (th_rm (fun x J => th_Inv (K + 800) sl Z J ∧ (True)) (fun E J => th_Inv (K + 800) sl Z J ∧ (E = th_IAE))) := by
  refine th_of hl (by decide +kernel) (Nat.le_of_ble_eq_true rfl) (fun z C hQ hN => ?_)
  show th_G l z 5 0 [(0, .inr (some (0, 0))), (1, .inl n)] [] (th_m I) 0 0
  have hb := hI.2.2.1
  refine th_iload_n C dc_H_run_0 rfl rfl ?_
  refine th_iconst (v := 1) C dc_H_run_1 th_c_1 ?_
  refine th_bipush (v := 40) C dc_H_run_2 th_b_40 ?_
  refine tq_callSt C (c_H_requireBetween l hl I n ((1 : Int32)) ((40 : Int32))) ok_H_86 rfl (Nat.le_of_ble_eq_true rfl) dc_H_run_4 rfl (fun E pE => th_outX C hQ (fun _ h => nomatch h) (by decide) (by decide) (Or.inr ⟨E, _, rfl, rfl, th_mono hI (by omega) (by omega), pE.1⟩)) (fun p1 => ?_)
  try simp only [th_l_1, th_l_40] at p1
  refine th_aload_n C dc_H_run_7 rfl rfl ?_
  refine tq_getI C dc_H_run_8 cl_0 fd_H_89 rfl (show 0 < 1 from by omega) (fun x2 e2 => ?_)
  have g2 : x2.toInt = (I 0 0 9).toInt := by rw [e2]
  refine th_istore_n (lv' := [(0, .inr (some (0, 0))), (1, .inl n), (2, .inl x2)]) C dc_H_run_11 rfl (by decide) rfl ?_
  refine th_iconst (v := 0) C dc_H_run_12 th_c_0 ?_
  refine th_istore_n (lv' := [(0, .inr (some (0, 0))), (1, .inl n), (2, .inl x2), (3, .inl ((0 : Int32)))]) C dc_H_run_13 rfl (by decide) rfl ?_
  have L14 : ∀ (N : Nat) (k : Int32) (I3 : th_I), (th_Inv (K + 20 * k.toInt) sl Z I3) → (0 ≤ k.toInt ∧ k.toInt ≤ n.toInt) → (n.toInt - k.toInt).toNat < N → th_G l z 5 14 [(0, .inr (some (0, 0))), (1, .inl n), (2, .inl x2), (3, .inl k)] [] (th_m I3) 1 6 := by
    intro N
    induction N with
    | zero => intro k I3 hI3 h1 hm; exact absurd hm (Nat.not_lt_zero _)
    | succ N ih =>
      intro k I3 hI3 h1 hm
      refine th_iload_n C dc_H_run_14 rfl rfl ?_
      refine th_iload_n C dc_H_run_15 rfl rfl ?_
      refine tq_icmp_ge (tgt := 51) C dc_H_run_16 (by decide) rfl rfl (fun c4 => ?_) (fun c4 => ?_)
      · refine th_aload_n C dc_H_run_51 rfl rfl ?_
        refine tq_getI C dc_H_run_52 cl_0 fd_H_89 rfl (show 0 < 1 from by omega) (fun x5 e5 => ?_)
        have g5 : x5.toInt = (I3 0 0 9).toInt := by rw [e5]
        refine th_iload_n C dc_H_run_55 rfl rfl ?_
        refine tq_isub C dc_H_run_56 rfl rfl (fun x6 e6 a6 => ?_)
        exact th_iret C hQ dc_H_run_57 (by decide) (by decide) (Or.inl ⟨_, _, rfl, rfl, (by first | exact hI3 | exact th_mono hI3 (by omega) (by omega)), trivial⟩)
      · refine th_aload_n C dc_H_run_19 rfl rfl ?_
        refine tq_callVp C (c_H_nextReady l hl I3 hI3) ok_H_92 cl_0 (show 0 < 1 from by omega) rfl (Nat.le_of_ble_eq_true rfl) dc_H_run_20 rfl (fun x7 p7 => ?_)
        refine th_istore (lv' := [(0, .inr (some (0, 0))), (1, .inl n), (2, .inl x2), (3, .inl k), (4, .inl x7)]) C dc_H_run_23 (by decide) rfl ?_
        refine th_iload C dc_H_run_25 rfl ?_
        refine th_iconst (v := -1) C dc_H_run_27 th_c_m1 ?_
        refine tq_icmp_ne (tgt := 34) C dc_H_run_28 (by decide) rfl th_l_m1 (fun c8 => ?_) (fun c8 => ?_)
        · refine th_aload_n C dc_H_run_34 rfl rfl ?_
          refine th_aload_n C dc_H_run_35 rfl rfl ?_
          refine tq_getR C dc_H_run_36 cl_0 fd_H_11 rfl (show 0 < 1 from by omega) rfl ?_
          refine th_iload C dc_H_run_39 rfl ?_
          obtain ⟨n9, m9⟩ := th_nat (a := x7.toInt) (by omega)
          refine tq_aaldN C dc_H_run_41 rfl (fun _ => rfl) (show 0 < 1 from by omega) rfl m9 (show n9 < 5 from by omega) (fun _ => rfl) ?_
          refine tq_callVv C (c_H_takeTurn l hl I3 n9 hI3 (by omega) (by omega)) ok_H_96 cl_0 (show 0 < 1 from by omega) rfl (Nat.le_of_ble_eq_true rfl) dc_H_run_42 rfl (fun I10 p10 => ?_)
          obtain ⟨hI10, p10⟩ := p10
          refine tq_iinc (lv' := fun rr => [(0, .inr (some (0, 0))), (1, .inl n), (2, .inl x2), (3, .inl rr), (4, .inl x7)]) C dc_H_run_45 rfl (by decide) th_c_1 rfl th_l_1 (fun rr => rfl) (fun x11 e11 a11 => ?_)
          refine th_goto (tgt := 14) C dc_H_run_48 (by decide) ?_
          refine th_sub C (lv' := [(0, .inr (some (0, 0))), (1, .inl n), (2, .inl x2), (3, .inl x11)]) (fun q hq => by simp at hq ⊢; rcases hq with rfl | rfl | rfl | rfl <;> simp) ?_
          exact ih x11 I10 (th_mono hI10 (by omega) (by omega)) (by omega) (by omega)
        · refine th_goto (tgt := 51) C dc_H_run_31 (by decide) ?_
          refine th_aload_n C dc_H_run_51 rfl rfl ?_
          refine tq_getI C dc_H_run_52 cl_0 fd_H_89 rfl (show 0 < 1 from by omega) (fun x12 e12 => ?_)
          have g12 : x12.toInt = (I3 0 0 9).toInt := by rw [e12]
          refine th_iload_n C dc_H_run_55 rfl rfl ?_
          refine tq_isub C dc_H_run_56 rfl rfl (fun x13 e13 a13 => ?_)
          exact th_iret C hQ dc_H_run_57 (by decide) (by decide) (Or.inl ⟨_, _, rfl, rfl, (by first | exact hI3 | exact th_mono hI3 (by omega) (by omega)), trivial⟩)
  exact L14 _ ((0 : Int32)) I (th_mono hI (by rw [th_l_0]; omega) (by rw [th_l_0]; omega)) (by have := th_l_0; omega) (Nat.lt_succ_self _)

set_option maxRecDepth 100000 in
set_option maxHeartbeats 4000000 in
theorem c_H_slice (l : Launch) (hl : l.stackTraces = false) {K sl : Int} {Z : th_I} (I : th_I) (n : Int32) (hI : th_Inv K sl Z I) : th_F l yn_H_slice cb_H_slice 3 (some .int) { frames := 7, cells := 1, slots := 6, locals := 111 } [.inr (some (0, 0)), .inl n] (th_m I) (th_rm (fun x J => th_Inv K n.toInt Z J ∧ (1 ≤ n.toInt ∧ n.toInt ≤ 20) ∧ x.toInt = sl) (fun E J => (th_Inv K sl Z J ∧ E = th_IAE) ∧ ¬ (1 ≤ n.toInt ∧ n.toInt ≤ 20))) := by
  refine th_of hl (by decide +kernel) (Nat.le_of_ble_eq_true rfl) (fun z C hQ hN => ?_)
  show th_G l z 3 0 [(0, .inr (some (0, 0))), (1, .inl n)] [] (th_m I) 0 0
  have hb := hI.2.2.1
  refine th_iload_n C dc_H_slice_0 rfl rfl ?_
  refine th_iconst (v := 1) C dc_H_slice_1 th_c_1 ?_
  refine th_bipush (v := 20) C dc_H_slice_2 th_b_20 ?_
  refine tq_callSt C (c_H_requireBetween l hl I n ((1 : Int32)) ((20 : Int32))) ok_H_86 rfl (Nat.le_of_ble_eq_true rfl) dc_H_slice_4 rfl (fun E pE => th_outX C hQ (fun _ h => nomatch h) (by decide) (by decide) (Or.inr ⟨E, _, rfl, rfl, ⟨hI, pE.1⟩, by have := th_l_1; have := th_l_20; omega⟩)) (fun p1 => ?_)
  try simp only [th_l_1, th_l_20] at p1
  refine th_aload_n C dc_H_slice_7 rfl rfl ?_
  refine tq_getI C dc_H_slice_8 cl_0 fd_H_39 rfl (show 0 < 1 from by omega) (fun x2 e2 => ?_)
  have g2 : x2.toInt = (I 0 0 6).toInt := by rw [e2]
  have r2 : x2.toInt = sl ∨ 0 < 0 := by rw [e2]; exact hI.1 0 0 6
  refine th_istore_n (lv' := [(0, .inr (some (0, 0))), (1, .inl n), (2, .inl x2)]) C dc_H_slice_11 rfl (by decide) rfl ?_
  refine th_aload_n C dc_H_slice_12 rfl rfl ?_
  refine th_iload_n C dc_H_slice_13 rfl rfl ?_
  refine tq_putI C dc_H_slice_14 cl_0 fd_H_39 rfl (show 0 < 1 from by omega) rfl rfl ?_
  refine th_gen (P := fun J => J = th_u I 0 0 6 n) rfl (fun I3 u3 => ?_)
  have e3 : n = I3 0 0 6 := by rw [u3, th_u_eq]
  have g3 : n.toInt = (I3 0 0 6).toInt := by rw [← e3]
  refine th_iload_n C dc_H_slice_17 rfl rfl ?_
  exact th_iret C hQ dc_H_slice_18 (by decide) (by decide) (Or.inl ⟨_, _, rfl, rfl, (by rw [u3]; exact th_slice hI (by omega)), by omega, by omega⟩)

set_option maxRecDepth 100000 in
set_option maxHeartbeats 4000000 in
theorem c_H_add (l : Launch) (hl : l.stackTraces = false) {K sl : Int} {Z : th_I} (I : th_I) (t : Int32) (o : Int32) (a : Int32) (b : Int32) (hI : th_Inv K sl Z I) : th_F l yn_H_add cb_H_add 6 (some .int) { frames := 9, cells := 6, slots := 36, locals := 153 } [.inr (some (0, 0)), .inl t, .inl o, .inl a, .inl b] (th_m I) (th_rm (fun x J => th_Inv K sl Z J ∧ (True)) (fun E J => th_Inv K sl Z J ∧ (E = th_IAE ∨ E = th_ISE ∨ E = th_IOB))) := by
  refine th_of hl (by decide +kernel) (Nat.le_of_ble_eq_true rfl) (fun z C hQ hN => ?_)
  show th_G l z 6 0 [(0, .inr (some (0, 0))), (1, .inl t), (2, .inl o), (3, .inl a), (4, .inl b)] [] (th_m I) 0 0
  have hb := hI.2.2.1
  refine th_iload_n C dc_H_add_0 rfl rfl ?_
  refine th_iconst (v := 5) C dc_H_add_1 th_c_5 ?_
  refine tq_callSt C (c_H_requireBelow l hl I t ((5 : Int32)) (by have := th_l_5; omega)) ok_H_46 rfl (Nat.le_of_ble_eq_true rfl) dc_H_add_2 rfl (fun E pE => th_outX C hQ (fun _ h => nomatch h) (by decide) (by decide) (Or.inr ⟨E, _, rfl, rfl, hI, Or.inl pE.1⟩)) (fun p1 => ?_)
  try simp only [th_l_5] at p1
  refine th_iload_n C dc_H_add_5 rfl rfl ?_
  refine th_gets (q := th_s91) C dc_H_add_6 th_s91_in sl_H_50 ?_
  refine th_slen (q := th_s91) (v := 21) C dc_H_add_9 th_s91_in rfl ?_
  refine tq_callSt C (c_H_requireBelow l hl I o ((21 : Int32)) (by have := th_l_21; omega)) ok_H_46 rfl (Nat.le_of_ble_eq_true rfl) dc_H_add_10 rfl (fun E pE => th_outX C hQ (fun _ h => nomatch h) (by decide) (by decide) (Or.inr ⟨E, _, rfl, rfl, hI, Or.inl pE.1⟩)) (fun p2 => ?_)
  try simp only [th_l_21] at p2
  refine th_iload_n C dc_H_add_13 rfl rfl ?_
  refine th_gets (q := th_s91) C dc_H_add_14 th_s91_in sl_H_50 ?_
  refine th_iload_n C dc_H_add_17 rfl rfl ?_
  refine th_sld (q := th_s91) C dc_H_add_18 th_s91_in rfl (by omega) (show o.toInt < ((21 : Nat) : Int) from by omega) (fun n3 x3 m3 q3 e3 => ?_)
  have q3 : n3 < 21 := q3
  refine tq_callSt C (c_H_requireOperand l hl I a x3) ok_H_53 rfl (Nat.le_of_ble_eq_true rfl) dc_H_add_19 rfl (fun E pE => th_outX C hQ (fun _ h => nomatch h) (by decide) (by decide) (Or.inr ⟨E, _, rfl, rfl, hI, Or.inl pE.1⟩)) (fun p4 => ?_)
  refine th_iload C dc_H_add_22 rfl ?_
  refine th_gets (q := th_s92) C dc_H_add_24 th_s92_in sl_H_56 ?_
  refine th_iload_n C dc_H_add_27 rfl rfl ?_
  refine th_sld (q := th_s92) C dc_H_add_28 th_s92_in rfl (by omega) (show o.toInt < ((21 : Nat) : Int) from by omega) (fun n5 x5 m5 q5 e5 => ?_)
  have q5 : n5 < 21 := q5
  refine tq_callSt C (c_H_requireOperand l hl I b x5) ok_H_53 rfl (Nat.le_of_ble_eq_true rfl) dc_H_add_29 rfl (fun E pE => th_outX C hQ (fun _ h => nomatch h) (by decide) (by decide) (Or.inr ⟨E, _, rfl, rfl, hI, Or.inl pE.1⟩)) (fun p6 => ?_)
  refine th_aload_n C dc_H_add_32 rfl rfl ?_
  refine tq_getR C dc_H_add_33 cl_0 fd_H_11 rfl (show 0 < 1 from by omega) rfl ?_
  refine th_iload_n C dc_H_add_36 rfl rfl ?_
  obtain ⟨n7, m7⟩ := th_nat (a := t.toInt) (by omega)
  refine tq_aaldN C dc_H_add_37 rfl (fun _ => rfl) (show 0 < 1 from by omega) rfl m7 (show n7 < 5 from by omega) (fun _ => rfl) ?_
  refine tq_callSt C (c_H_requireNotAlive l hl I n7 (by omega)) ok_H_59 rfl (Nat.le_of_ble_eq_true rfl) dc_H_add_38 rfl (fun E pE => th_outX C hQ (fun _ h => nomatch h) (by decide) (by decide) (Or.inr ⟨E, _, rfl, rfl, hI, Or.inr (Or.inl pE.1)⟩)) (fun p8 => ?_)
  refine th_aload_n C dc_H_add_41 rfl rfl ?_
  refine tq_getR C dc_H_add_42 cl_0 fd_H_11 rfl (show 0 < 1 from by omega) rfl ?_
  refine th_iload_n C dc_H_add_45 rfl rfl ?_
  refine tq_aaldN C dc_H_add_46 rfl (fun _ => rfl) (show 0 < 1 from by omega) rfl m7 (show n7 < 5 from by omega) (fun _ => rfl) ?_
  refine tq_getR C dc_H_add_47 cl_6 fd_H_63 rfl (show n7 < 5 from by omega) rfl ?_
  refine th_astore (lv' := [(0, .inr (some (0, 0))), (1, .inl t), (2, .inl o), (3, .inl a), (4, .inl b), (5, .inr (some (7, n7)))]) C dc_H_add_50 (by decide) rfl ?_
  refine th_aload C dc_H_add_52 rfl ?_
  refine tq_getI C dc_H_add_54 cl_7 fd_H_67 rfl (show n7 < 5 from by omega) (fun x9 e9 => ?_)
  have g9 : x9.toInt = (I 7 n7 3).toInt := by rw [e9]
  have r9 : 0 ≤ x9.toInt ∧ x9.toInt ≤ 24 := by rw [e9]; exact hI.1 7 n7 3
  refine th_bipush (v := 24) C dc_H_add_57 th_b_24 ?_
  refine tq_icmp_lt (tgt := 70) C dc_H_add_59 (by decide) rfl th_l_24 (fun c10 => ?_) (fun c10 => ?_)
  · refine th_aload C dc_H_add_70 rfl ?_
    refine th_iload_n C dc_H_add_72 rfl rfl ?_
    refine th_iload_n C dc_H_add_73 rfl rfl ?_
    refine th_iload C dc_H_add_74 rfl ?_
    refine tq_callVv C (c_P_append l hl I n7 o a b hI (by omega) (th_val_of (by omega) (by omega) m3 e3 m5 e5 p4 p6)) ok_H_75 cl_7 (show n7 < 5 from by omega) rfl (Nat.le_of_ble_eq_true rfl) dc_H_add_76 rfl (fun I11 p11 => ?_)
    obtain ⟨hI11, p11⟩ := p11
    refine th_aload C dc_H_add_79 rfl ?_
    refine tq_getI C dc_H_add_81 cl_7 fd_H_67 rfl (show n7 < 5 from by omega) (fun x12 e12 => ?_)
    have g12 : x12.toInt = (I11 7 n7 3).toInt := by rw [e12]
    have r12 : 0 ≤ x12.toInt ∧ x12.toInt ≤ 24 := by rw [e12]; exact hI11.1 7 n7 3
    exact th_iret C hQ dc_H_add_84 (by decide) (by decide) (Or.inl ⟨_, _, rfl, rfl, hI11, trivial⟩)
  · exact th_throw C hQ okT_H_72 dc_H_add_62 dc_H_add_65 dc_H_add_66 dc_H_add_69 (fun _ h => nomatch h) (by decide) (by decide) (by decide) (by decide) (by decide) (by decide) rfl (Or.inr ⟨_, _, rfl, rfl, hI, Or.inr (Or.inr (rfl))⟩)

set_option maxRecDepth 100000 in
set_option maxHeartbeats 4000000 in
theorem c_H_clear (l : Launch) (hl : l.stackTraces = false) {K sl : Int} {Z : th_I} (I : th_I) (t : Int32) (hI : th_Inv K sl Z I) : th_F l yn_H_clear cb_H_clear 3 (some .int) { frames := 8, cells := 2, slots := 12, locals := 132 } [.inr (some (0, 0)), .inl t] (th_m I) (th_rm (fun x J => th_Inv K sl Z J ∧ (True)) (fun E J => th_Inv K sl Z J ∧ (E = th_IAE ∨ E = th_ISE))) := by
  refine th_of hl (by decide +kernel) (Nat.le_of_ble_eq_true rfl) (fun z C hQ hN => ?_)
  show th_G l z 3 0 [(0, .inr (some (0, 0))), (1, .inl t)] [] (th_m I) 0 0
  have hb := hI.2.2.1
  refine th_iload_n C dc_H_clear_0 rfl rfl ?_
  refine th_iconst (v := 5) C dc_H_clear_1 th_c_5 ?_
  refine tq_callSt C (c_H_requireBelow l hl I t ((5 : Int32)) (by have := th_l_5; omega)) ok_H_46 rfl (Nat.le_of_ble_eq_true rfl) dc_H_clear_2 rfl (fun E pE => th_outX C hQ (fun _ h => nomatch h) (by decide) (by decide) (Or.inr ⟨E, _, rfl, rfl, hI, Or.inl pE.1⟩)) (fun p1 => ?_)
  try simp only [th_l_5] at p1
  refine th_aload_n C dc_H_clear_5 rfl rfl ?_
  refine tq_getR C dc_H_clear_6 cl_0 fd_H_11 rfl (show 0 < 1 from by omega) rfl ?_
  refine th_iload_n C dc_H_clear_9 rfl rfl ?_
  obtain ⟨n2, m2⟩ := th_nat (a := t.toInt) (by omega)
  refine tq_aaldN C dc_H_clear_10 rfl (fun _ => rfl) (show 0 < 1 from by omega) rfl m2 (show n2 < 5 from by omega) (fun _ => rfl) ?_
  refine tq_callSt C (c_H_requireNotAlive l hl I n2 (by omega)) ok_H_59 rfl (Nat.le_of_ble_eq_true rfl) dc_H_clear_11 rfl (fun E pE => th_outX C hQ (fun _ h => nomatch h) (by decide) (by decide) (Or.inr ⟨E, _, rfl, rfl, hI, Or.inr (pE.1)⟩)) (fun p3 => ?_)
  refine th_aload_n C dc_H_clear_14 rfl rfl ?_
  refine tq_getR C dc_H_clear_15 cl_0 fd_H_11 rfl (show 0 < 1 from by omega) rfl ?_
  refine th_iload_n C dc_H_clear_18 rfl rfl ?_
  refine tq_aaldN C dc_H_clear_19 rfl (fun _ => rfl) (show 0 < 1 from by omega) rfl m2 (show n2 < 5 from by omega) (fun _ => rfl) ?_
  refine tq_getR C dc_H_clear_20 cl_6 fd_H_63 rfl (show n2 < 5 from by omega) rfl ?_
  refine tq_getI C dc_H_clear_23 cl_7 fd_H_67 rfl (show n2 < 5 from by omega) (fun x4 e4 => ?_)
  have g4 : x4.toInt = (I 7 n2 3).toInt := by rw [e4]
  have r4 : 0 ≤ x4.toInt ∧ x4.toInt ≤ 24 := by rw [e4]; exact hI.1 7 n2 3
  refine th_istore_n (lv' := [(0, .inr (some (0, 0))), (1, .inl t), (2, .inl x4)]) C dc_H_clear_26 rfl (by decide) rfl ?_
  refine th_aload_n C dc_H_clear_27 rfl rfl ?_
  refine tq_getR C dc_H_clear_28 cl_0 fd_H_11 rfl (show 0 < 1 from by omega) rfl ?_
  refine th_iload_n C dc_H_clear_31 rfl rfl ?_
  refine tq_aaldN C dc_H_clear_32 rfl (fun _ => rfl) (show 0 < 1 from by omega) rfl m2 (show n2 < 5 from by omega) (fun _ => rfl) ?_
  refine tq_getR C dc_H_clear_33 cl_6 fd_H_63 rfl (show n2 < 5 from by omega) rfl ?_
  refine th_iconst (v := 0) C dc_H_clear_36 th_c_0 ?_
  refine tq_putI C dc_H_clear_37 cl_7 fd_H_67 rfl (show n2 < 5 from by omega) rfl rfl ?_
  refine th_gen (P := fun J => th_Inv K sl Z J ∧ J = th_u I 7 n2 3 ((0 : Int32))) ⟨th_put hI (by decide) (show 0 ≤ (0 : Int32).toInt ∧ (0 : Int32).toInt ≤ 24 from by rw [th_l_0]; omega), rfl⟩ (fun I5 hI5 => ?_)
  obtain ⟨hI5, u5⟩ := hI5
  have e5 : (0 : Int32) = I5 7 n2 3 := by rw [u5, th_u_eq]
  have g5 : 0 = (I5 7 n2 3).toInt := by rw [← e5]; exact th_l_0.symm
  refine th_iload_n C dc_H_clear_40 rfl rfl ?_
  exact th_iret C hQ dc_H_clear_41 (by decide) (by decide) (Or.inl ⟨_, _, rfl, rfl, hI5, trivial⟩)

set_option maxRecDepth 100000 in
set_option maxHeartbeats 4000000 in
theorem c_H_start (l : Launch) (hl : l.stackTraces = false) {K sl : Int} {Z : th_I} (I : th_I) (t : Int32) (hI : th_Inv K sl Z I) : th_F l yn_H_start cb_H_start 2 (some .int) { frames := 8, cells := 1, slots := 6, locals := 132 } [.inr (some (0, 0)), .inl t] (th_m I) (th_rm (fun x J => th_Inv K sl Z J ∧ (True)) (fun E J => th_Inv K sl Z J ∧ (E = th_IAE))) := by
  refine th_of hl (by decide +kernel) (Nat.le_of_ble_eq_true rfl) (fun z C hQ hN => ?_)
  show th_G l z 2 0 [(0, .inr (some (0, 0))), (1, .inl t)] [] (th_m I) 0 0
  have hb := hI.2.2.1
  refine th_iload_n C dc_H_start_0 rfl rfl ?_
  refine th_iconst (v := 5) C dc_H_start_1 th_c_5 ?_
  refine tq_callSt C (c_H_requireBelow l hl I t ((5 : Int32)) (by have := th_l_5; omega)) ok_H_46 rfl (Nat.le_of_ble_eq_true rfl) dc_H_start_2 rfl (fun E pE => th_outX C hQ (fun _ h => nomatch h) (by decide) (by decide) (Or.inr ⟨E, _, rfl, rfl, hI, pE.1⟩)) (fun p1 => ?_)
  try simp only [th_l_5] at p1
  refine th_aload_n C dc_H_start_5 rfl rfl ?_
  refine tq_getR C dc_H_start_6 cl_0 fd_H_11 rfl (show 0 < 1 from by omega) rfl ?_
  refine th_iload_n C dc_H_start_9 rfl rfl ?_
  obtain ⟨n2, m2⟩ := th_nat (a := t.toInt) (by omega)
  refine tq_aaldN C dc_H_start_10 rfl (fun _ => rfl) (show 0 < 1 from by omega) rfl m2 (show n2 < 5 from by omega) (fun _ => rfl) ?_
  refine tq_callVp C (c_S_isAlive l hl I n2 (by omega)) ok_H_79 cl_6 (show n2 < 5 from by omega) rfl (Nat.le_of_ble_eq_true rfl) dc_H_start_11 rfl (fun x3 p3 => ?_)
  refine tq_if_eq (tgt := 19) C dc_H_start_14 (by decide) rfl (fun c4 => ?_) (fun c4 => ?_)
  · refine th_aload_n C dc_H_start_19 rfl rfl ?_
    refine tq_getR C dc_H_start_20 cl_0 fd_H_11 rfl (show 0 < 1 from by omega) rfl ?_
    refine th_iload_n C dc_H_start_23 rfl rfl ?_
    refine tq_aaldN C dc_H_start_24 rfl (fun _ => rfl) (show 0 < 1 from by omega) rfl m2 (show n2 < 5 from by omega) (fun _ => rfl) ?_
    refine tq_callVv C (c_S_beginAnew l hl I n2 hI (by omega)) ok_H_83 cl_6 (show n2 < 5 from by omega) rfl (Nat.le_of_ble_eq_true rfl) dc_H_start_25 rfl (fun I5 p5 => ?_)
    obtain ⟨hI5, p5⟩ := p5
    refine th_iconst (v := 1) C dc_H_start_28 th_c_1 ?_
    exact th_iret C hQ dc_H_start_29 (by decide) (by decide) (Or.inl ⟨_, _, rfl, rfl, hI5, trivial⟩)
  · refine th_iconst (v := 0) C dc_H_start_17 th_c_0 ?_
    exact th_iret C hQ dc_H_start_18 (by decide) (by decide) (Or.inl ⟨_, _, rfl, rfl, hI, trivial⟩)

set_option maxRecDepth 100000 in
set_option maxHeartbeats 4000000 in
theorem c_H_interrupt (l : Launch) (hl : l.stackTraces = false) {K sl : Int} {Z : th_I} (I : th_I) (t : Int32) (hI : th_Inv K sl Z I) : th_F l yn_H_interrupt cb_H_interrupt 2 (some .int) { frames := 8, cells := 1, slots := 6, locals := 132 } [.inr (some (0, 0)), .inl t] (th_m I) (th_rm (fun x J => th_Inv K sl Z J ∧ (True)) (fun E J => th_Inv K sl Z J ∧ (E = th_IAE))) := by
  refine th_of hl (by decide +kernel) (Nat.le_of_ble_eq_true rfl) (fun z C hQ hN => ?_)
  show th_G l z 2 0 [(0, .inr (some (0, 0))), (1, .inl t)] [] (th_m I) 0 0
  have hb := hI.2.2.1
  refine th_iload_n C dc_H_interrupt_0 rfl rfl ?_
  refine th_iconst (v := 5) C dc_H_interrupt_1 th_c_5 ?_
  refine tq_callSt C (c_H_requireBelow l hl I t ((5 : Int32)) (by have := th_l_5; omega)) ok_H_46 rfl (Nat.le_of_ble_eq_true rfl) dc_H_interrupt_2 rfl (fun E pE => th_outX C hQ (fun _ h => nomatch h) (by decide) (by decide) (Or.inr ⟨E, _, rfl, rfl, hI, pE.1⟩)) (fun p1 => ?_)
  try simp only [th_l_5] at p1
  refine th_aload_n C dc_H_interrupt_5 rfl rfl ?_
  refine tq_getR C dc_H_interrupt_6 cl_0 fd_H_11 rfl (show 0 < 1 from by omega) rfl ?_
  refine th_iload_n C dc_H_interrupt_9 rfl rfl ?_
  obtain ⟨n2, m2⟩ := th_nat (a := t.toInt) (by omega)
  refine tq_aaldN C dc_H_interrupt_10 rfl (fun _ => rfl) (show 0 < 1 from by omega) rfl m2 (show n2 < 5 from by omega) (fun _ => rfl) ?_
  refine tq_callVp C (c_S_isAlive l hl I n2 (by omega)) ok_H_79 cl_6 (show n2 < 5 from by omega) rfl (Nat.le_of_ble_eq_true rfl) dc_H_interrupt_11 rfl (fun x3 p3 => ?_)
  refine tq_if_ne (tgt := 19) C dc_H_interrupt_14 (by decide) rfl (fun c4 => ?_) (fun c4 => ?_)
  · refine th_aload_n C dc_H_interrupt_19 rfl rfl ?_
    refine th_aload_n C dc_H_interrupt_20 rfl rfl ?_
    refine tq_getR C dc_H_interrupt_21 cl_0 fd_H_11 rfl (show 0 < 1 from by omega) rfl ?_
    refine th_iload_n C dc_H_interrupt_24 rfl rfl ?_
    refine tq_aaldN C dc_H_interrupt_25 rfl (fun _ => rfl) (show 0 < 1 from by omega) rfl m2 (show n2 < 5 from by omega) (fun _ => rfl) ?_
    refine tq_callVv C (c_H_interruptAlive l hl I n2 hI (by omega)) ok_H_99 cl_0 (show 0 < 1 from by omega) rfl (Nat.le_of_ble_eq_true rfl) dc_H_interrupt_26 rfl (fun I5 p5 => ?_)
    obtain ⟨hI5, p5⟩ := p5
    refine th_iconst (v := 1) C dc_H_interrupt_29 th_c_1 ?_
    exact th_iret C hQ dc_H_interrupt_30 (by decide) (by decide) (Or.inl ⟨_, _, rfl, rfl, hI5, trivial⟩)
  · refine th_iconst (v := 0) C dc_H_interrupt_17 th_c_0 ?_
    exact th_iret C hQ dc_H_interrupt_18 (by decide) (by decide) (Or.inl ⟨_, _, rfl, rfl, hI, trivial⟩)

set_option maxRecDepth 100000 in
set_option maxHeartbeats 4000000 in
theorem c_H_global (l : Launch) (hl : l.stackTraces = false) {K sl : Int} {Z : th_I} (I : th_I) (s : Int32) (v : Int32) (hI : th_Inv K sl Z I) : th_F l yn_H_global cb_H_global 4 (some .int) { frames := 8, cells := 1, slots := 6, locals := 132 } [.inr (some (0, 0)), .inl s, .inl v] (th_m I) (th_rm (fun x J => th_Inv K sl Z J ∧ (True)) (fun E J => th_Inv K sl Z J ∧ (E = th_IAE))) := by
  refine th_of hl (by decide +kernel) (Nat.le_of_ble_eq_true rfl) (fun z C hQ hN => ?_)
  show th_G l z 4 0 [(0, .inr (some (0, 0))), (1, .inl s), (2, .inl v)] [] (th_m I) 0 0
  have hb := hI.2.2.1
  refine th_iload_n C dc_H_global_0 rfl rfl ?_
  refine th_iconst (v := 4) C dc_H_global_1 th_c_4 ?_
  refine tq_callSt C (c_H_requireBelow l hl I s ((4 : Int32)) (by have := th_l_4; omega)) ok_H_46 rfl (Nat.le_of_ble_eq_true rfl) dc_H_global_2 rfl (fun E pE => th_outX C hQ (fun _ h => nomatch h) (by decide) (by decide) (Or.inr ⟨E, _, rfl, rfl, hI, pE.1⟩)) (fun p1 => ?_)
  try simp only [th_l_4] at p1
  refine th_aload_n C dc_H_global_5 rfl rfl ?_
  refine tq_getR C dc_H_global_6 cl_0 fd_H_32 rfl (show 0 < 1 from by omega) rfl ?_
  refine th_iload_n C dc_H_global_9 rfl rfl ?_
  obtain ⟨n3, m3⟩ := th_nat (a := s.toInt) (by omega)
  refine tq_ialdN C dc_H_global_10 rfl (fun _ => rfl) (show 0 < 1 from by omega) rfl m3 (show n3 < 4 from by omega) (fun x2 e2 => ?_)
  have g2 : x2.toInt = (I 4 0 n3).toInt := by rw [e2]
  refine th_istore_n (lv' := [(0, .inr (some (0, 0))), (1, .inl s), (2, .inl v), (3, .inl x2)]) C dc_H_global_11 rfl (by decide) rfl ?_
  refine th_aload_n C dc_H_global_12 rfl rfl ?_
  refine tq_getR C dc_H_global_13 cl_0 fd_H_32 rfl (show 0 < 1 from by omega) rfl ?_
  refine th_iload_n C dc_H_global_16 rfl rfl ?_
  refine th_iload_n C dc_H_global_17 rfl rfl ?_
  refine tq_iastN C dc_H_global_18 rfl (fun _ => rfl) (show 0 < 1 from by omega) rfl m3 (show n3 < 4 from by omega) ?_
  refine th_gen (P := fun J => th_Inv K sl Z J ∧ J = th_u I 4 0 n3 v) ⟨th_put hI (by decide) trivial, rfl⟩ (fun I4 hI4 => ?_)
  obtain ⟨hI4, u4⟩ := hI4
  have e4 : v = I4 4 0 n3 := by rw [u4, th_u_eq]
  have g4 : v.toInt = (I4 4 0 n3).toInt := by rw [← e4]
  refine th_iload_n C dc_H_global_19 rfl rfl ?_
  exact th_iret C hQ dc_H_global_20 (by decide) (by decide) (Or.inl ⟨_, _, rfl, rfl, hI4, trivial⟩)

set_option maxRecDepth 100000 in
set_option maxHeartbeats 4000000 in
theorem c_H_special (l : Launch) (hl : l.stackTraces = false) {K sl : Int} {Z : th_I} (I : th_I) (t : Int32) (s : Int32) (hI : th_Inv K sl Z I) : th_F l yn_H_special cb_H_special 3 (some .int) { frames := 8, cells := 2, slots := 12, locals := 132 } [.inr (some (0, 0)), .inl t, .inl s] (th_m I) (th_rm (fun x J => th_Inv K sl Z J ∧ (True)) (fun E J => th_Inv K sl Z J ∧ (E = th_IAE))) := by
  refine th_of hl (by decide +kernel) (Nat.le_of_ble_eq_true rfl) (fun z C hQ hN => ?_)
  show th_G l z 3 0 [(0, .inr (some (0, 0))), (1, .inl t), (2, .inl s)] [] (th_m I) 0 0
  have hb := hI.2.2.1
  refine th_iload_n C dc_H_special_0 rfl rfl ?_
  refine th_iconst (v := 5) C dc_H_special_1 th_c_5 ?_
  refine tq_callSt C (c_H_requireBelow l hl I t ((5 : Int32)) (by have := th_l_5; omega)) ok_H_46 rfl (Nat.le_of_ble_eq_true rfl) dc_H_special_2 rfl (fun E pE => th_outX C hQ (fun _ h => nomatch h) (by decide) (by decide) (Or.inr ⟨E, _, rfl, rfl, hI, pE.1⟩)) (fun p1 => ?_)
  try simp only [th_l_5] at p1
  refine th_iload_n C dc_H_special_5 rfl rfl ?_
  refine th_iconst (v := 4) C dc_H_special_6 th_c_4 ?_
  refine tq_callSt C (c_H_requireBelow l hl I s ((4 : Int32)) (by have := th_l_4; omega)) ok_H_46 rfl (Nat.le_of_ble_eq_true rfl) dc_H_special_7 rfl (fun E pE => th_outX C hQ (fun _ h => nomatch h) (by decide) (by decide) (Or.inr ⟨E, _, rfl, rfl, hI, pE.1⟩)) (fun p2 => ?_)
  try simp only [th_l_4] at p2
  refine th_aload_n C dc_H_special_10 rfl rfl ?_
  refine th_aload_n C dc_H_special_11 rfl rfl ?_
  refine tq_getR C dc_H_special_12 cl_0 fd_H_11 rfl (show 0 < 1 from by omega) rfl ?_
  refine th_iload_n C dc_H_special_15 rfl rfl ?_
  obtain ⟨n3, m3⟩ := th_nat (a := t.toInt) (by omega)
  refine tq_aaldN C dc_H_special_16 rfl (fun _ => rfl) (show 0 < 1 from by omega) rfl m3 (show n3 < 5 from by omega) (fun _ => rfl) ?_
  refine th_iload_n C dc_H_special_17 rfl rfl ?_
  refine tq_callVp C (c_H_read l hl I n3 s hI (by omega) (by omega)) ok_H_102 cl_0 (show 0 < 1 from by omega) rfl (Nat.le_of_ble_eq_true rfl) dc_H_special_18 rfl (fun x4 p4 => ?_)
  exact th_iret C hQ dc_H_special_21 (by decide) (by decide) (Or.inl ⟨_, _, rfl, rfl, hI, trivial⟩)

set_option maxRecDepth 100000 in
set_option maxHeartbeats 4000000 in
theorem c_H_look (l : Launch) (hl : l.stackTraces = false) {K sl : Int} {Z : th_I} (I : th_I) (t : Int32) (w : Int32) (hI : th_Inv K sl Z I) : th_F l yn_H_look cb_H_look 4 (some .int) { frames := 8, cells := 2, slots := 12, locals := 132 } [.inr (some (0, 0)), .inl t, .inl w] (th_m I) (th_rm (fun x J => th_Inv K sl Z J ∧ (True)) (fun E J => th_Inv K sl Z J ∧ (E = th_IAE))) := by
  refine th_of hl (by decide +kernel) (Nat.le_of_ble_eq_true rfl) (fun z C hQ hN => ?_)
  show th_G l z 4 0 [(0, .inr (some (0, 0))), (1, .inl t), (2, .inl w)] [] (th_m I) 0 0
  have hb := hI.2.2.1
  refine th_iload_n C dc_H_look_0 rfl rfl ?_
  refine th_iconst (v := 5) C dc_H_look_1 th_c_5 ?_
  refine tq_callSt C (c_H_requireBelow l hl I t ((5 : Int32)) (by have := th_l_5; omega)) ok_H_46 rfl (Nat.le_of_ble_eq_true rfl) dc_H_look_2 rfl (fun E pE => th_outX C hQ (fun _ h => nomatch h) (by decide) (by decide) (Or.inr ⟨E, _, rfl, rfl, hI, pE.1⟩)) (fun p1 => ?_)
  try simp only [th_l_5] at p1
  refine th_aload_n C dc_H_look_5 rfl rfl ?_
  refine tq_getR C dc_H_look_6 cl_0 fd_H_11 rfl (show 0 < 1 from by omega) rfl ?_
  refine th_iload_n C dc_H_look_9 rfl rfl ?_
  obtain ⟨n2, m2⟩ := th_nat (a := t.toInt) (by omega)
  refine tq_aaldN C dc_H_look_10 rfl (fun _ => rfl) (show 0 < 1 from by omega) rfl m2 (show n2 < 5 from by omega) (fun _ => rfl) ?_
  refine th_astore_n (lv' := [(0, .inr (some (0, 0))), (1, .inl t), (2, .inl w), (3, .inr (some (6, n2)))]) C dc_H_look_11 rfl (by decide) rfl ?_
  refine th_iload_n C dc_H_look_12 rfl rfl ?_
  have w3 : w.toInt = 0 ∨ w.toInt = 1 ∨ w.toInt = 2 ∨ w.toInt = 3 ∨ w.toInt = 4 ∨ w.toInt = 5 ∨ w.toInt = 6 ∨ w.toInt = 7 ∨ w.toInt = 8 ∨ w.toInt = 9 ∨ (w.toInt < 0 ∨ 9 < w.toInt) := by omega
  rcases w3 with w3 | w3 | w3 | w3 | w3 | w3 | w3 | w3 | w3 | w3 | w3
  · refine th_tableIn (tgt := 68) C dc_H_look_13 (by omega) (by omega) (by rw [w3]; rfl) (by decide) ?_
    refine th_aload_n C dc_H_look_68 rfl rfl ?_
    refine tq_getI C dc_H_look_69 cl_6 fd_H_106 rfl (show n2 < 5 from by omega) (fun x4 e4 => ?_)
    have g4 : x4.toInt = (I 6 n2 5).toInt := by rw [e4]
    exact th_iret C hQ dc_H_look_72 (by decide) (by decide) (Or.inl ⟨_, _, rfl, rfl, hI, trivial⟩)
  · refine th_tableIn (tgt := 73) C dc_H_look_13 (by omega) (by omega) (by rw [w3]; rfl) (by decide) ?_
    refine th_aload_n C dc_H_look_73 rfl rfl ?_
    refine tq_getI C dc_H_look_74 cl_6 fd_H_109 rfl (show n2 < 5 from by omega) (fun x5 e5 => ?_)
    have g5 : x5.toInt = (I 6 n2 6).toInt := by rw [e5]
    have r5 : 0 ≤ x5.toInt ∧ x5.toInt ≤ 24 := by rw [e5]; exact hI.1 6 n2 6
    exact th_iret C hQ dc_H_look_77 (by decide) (by decide) (Or.inl ⟨_, _, rfl, rfl, hI, trivial⟩)
  · refine th_tableIn (tgt := 78) C dc_H_look_13 (by omega) (by omega) (by rw [w3]; rfl) (by decide) ?_
    refine th_aload_n C dc_H_look_78 rfl rfl ?_
    refine tq_getI C dc_H_look_79 cl_6 fd_H_112 rfl (show n2 < 5 from by omega) (fun x6 e6 => ?_)
    have g6 : x6.toInt = (I 6 n2 7).toInt := by rw [e6]
    exact th_iret C hQ dc_H_look_82 (by decide) (by decide) (Or.inl ⟨_, _, rfl, rfl, hI, trivial⟩)
  · refine th_tableIn (tgt := 83) C dc_H_look_13 (by omega) (by omega) (by rw [w3]; rfl) (by decide) ?_
    refine th_aload_n C dc_H_look_83 rfl rfl ?_
    refine tq_getR C dc_H_look_84 cl_6 fd_H_115 rfl (show n2 < 5 from by omega) rfl ?_
    refine tq_getI C dc_H_look_87 cl_11 fd_H_119 rfl (show 2 * n2 < 10 from by omega) (fun x7 e7 => ?_)
    have g7 : x7.toInt = (I 11 (2 * n2) 2).toInt := by rw [e7]
    have r7 : 0 ≤ x7.toInt ∧ x7.toInt ≤ (th_lp (2 * n2) : Int) := by rw [e7]; exact hI.1 11 (2 * n2) 2
    exact th_iret C hQ dc_H_look_90 (by decide) (by decide) (Or.inl ⟨_, _, rfl, rfl, hI, trivial⟩)
  · refine th_tableIn (tgt := 91) C dc_H_look_13 (by omega) (by omega) (by rw [w3]; rfl) (by decide) ?_
    refine th_aload_n C dc_H_look_91 rfl rfl ?_
    refine tq_getR C dc_H_look_92 cl_6 fd_H_122 rfl (show n2 < 5 from by omega) rfl ?_
    refine tq_getI C dc_H_look_95 cl_11 fd_H_119 rfl (show 2 * n2 + 1 < 10 from by omega) (fun x8 e8 => ?_)
    have g8 : x8.toInt = (I 11 (2 * n2 + 1) 2).toInt := by rw [e8]
    have r8 : 0 ≤ x8.toInt ∧ x8.toInt ≤ (th_lp (2 * n2 + 1) : Int) := by rw [e8]; exact hI.1 11 (2 * n2 + 1) 2
    exact th_iret C hQ dc_H_look_98 (by decide) (by decide) (Or.inl ⟨_, _, rfl, rfl, hI, trivial⟩)
  · refine th_tableIn (tgt := 99) C dc_H_look_13 (by omega) (by omega) (by rw [w3]; rfl) (by decide) ?_
    refine th_aload_n C dc_H_look_99 rfl rfl ?_
    refine tq_getI C dc_H_look_100 cl_6 fd_H_125 rfl (show n2 < 5 from by omega) (fun x9 e9 => ?_)
    have g9 : x9.toInt = (I 6 n2 11).toInt := by rw [e9]
    refine tq_if_eq (tgt := 110) C dc_H_look_103 (by decide) rfl (fun c10 => ?_) (fun c10 => ?_)
    · refine th_iconst (v := 0) C dc_H_look_110 th_c_0 ?_
      exact th_iret C hQ dc_H_look_111 (by decide) (by decide) (Or.inl ⟨_, _, rfl, rfl, hI, trivial⟩)
    · refine th_iconst (v := 1) C dc_H_look_106 th_c_1 ?_
      refine th_goto (tgt := 111) C dc_H_look_107 (by decide) ?_
      exact th_iret C hQ dc_H_look_111 (by decide) (by decide) (Or.inl ⟨_, _, rfl, rfl, hI, trivial⟩)
  · refine th_tableIn (tgt := 112) C dc_H_look_13 (by omega) (by omega) (by rw [w3]; rfl) (by decide) ?_
    refine th_aload_n C dc_H_look_112 rfl rfl ?_
    refine tq_getI C dc_H_look_113 cl_6 fd_H_129 rfl (show n2 < 5 from by omega) (fun x11 e11 => ?_)
    have g11 : x11.toInt = (I 6 n2 8).toInt := by rw [e11]
    have r11 : 0 ≤ x11.toInt ∧ x11.toInt ≤ 24 := by rw [e11]; exact hI.1 6 n2 8
    exact th_iret C hQ dc_H_look_116 (by decide) (by decide) (Or.inl ⟨_, _, rfl, rfl, hI, trivial⟩)
  · refine th_tableIn (tgt := 117) C dc_H_look_13 (by omega) (by omega) (by rw [w3]; rfl) (by decide) ?_
    refine th_aload_n C dc_H_look_117 rfl rfl ?_
    refine tq_getI C dc_H_look_118 cl_6 fd_H_132 rfl (show n2 < 5 from by omega) (fun x12 e12 => ?_)
    have g12 : x12.toInt = (I 6 n2 9).toInt := by rw [e12]
    exact th_iret C hQ dc_H_look_121 (by decide) (by decide) (Or.inl ⟨_, _, rfl, rfl, hI, trivial⟩)
  · refine th_tableIn (tgt := 122) C dc_H_look_13 (by omega) (by omega) (by rw [w3]; rfl) (by decide) ?_
    refine th_aload_n C dc_H_look_122 rfl rfl ?_
    refine tq_getI C dc_H_look_123 cl_6 fd_H_135 rfl (show n2 < 5 from by omega) (fun x13 e13 => ?_)
    have g13 : x13.toInt = (I 6 n2 10).toInt := by rw [e13]
    exact th_iret C hQ dc_H_look_126 (by decide) (by decide) (Or.inl ⟨_, _, rfl, rfl, hI, trivial⟩)
  · refine th_tableIn (tgt := 127) C dc_H_look_13 (by omega) (by omega) (by rw [w3]; rfl) (by decide) ?_
    refine th_aload_n C dc_H_look_127 rfl rfl ?_
    refine tq_getR C dc_H_look_128 cl_6 fd_H_138 rfl (show n2 < 5 from by omega) rfl ?_
    refine tq_getI C dc_H_look_131 cl_14 fd_H_142 rfl (show n2 < 11 from by omega) (fun x14 e14 => ?_)
    have g14 : x14.toInt = (I 14 n2 1).toInt := by rw [e14]
    have r14 : 0 ≤ x14.toInt ∧ x14.toInt ≤ 5 := by rw [e14]; exact hI.1 14 n2 1
    exact th_iret C hQ dc_H_look_134 (by decide) (by decide) (Or.inl ⟨_, _, rfl, rfl, hI, trivial⟩)
  · refine th_tableOut (tgt := 135) C dc_H_look_13 w3 (by decide) ?_
    exact th_throw C hQ okT_H_143 dc_H_look_135 dc_H_look_138 dc_H_look_139 dc_H_look_142 (fun _ h => nomatch h) (by decide) (by decide) (by decide) (by decide) (by decide) (by decide) rfl (Or.inr ⟨_, _, rfl, rfl, hI, rfl⟩)

set_option maxRecDepth 100000 in
set_option maxHeartbeats 4000000 in
theorem c_H_lock (l : Launch) (hl : l.stackTraces = false) {K sl : Int} {Z : th_I} (I : th_I) (m : Int32) (w : Int32) (hI : th_Inv K sl Z I) : th_F l yn_H_lock cb_H_lock 3 (some .int) { frames := 8, cells := 2, slots := 12, locals := 132 } [.inr (some (0, 0)), .inl m, .inl w] (th_m I) (th_rm (fun x J => th_Inv K sl Z J ∧ (True)) (fun E J => th_Inv K sl Z J ∧ (E = th_IAE))) := by
  refine th_of hl (by decide +kernel) (Nat.le_of_ble_eq_true rfl) (fun z C hQ hN => ?_)
  show th_G l z 3 0 [(0, .inr (some (0, 0))), (1, .inl m), (2, .inl w)] [] (th_m I) 0 0
  have hb := hI.2.2.1
  refine th_iload_n C dc_H_lock_0 rfl rfl ?_
  refine th_iconst (v := 3) C dc_H_lock_1 th_c_3 ?_
  refine tq_callSt C (c_H_requireBelow l hl I m ((3 : Int32)) (by have := th_l_3; omega)) ok_H_46 rfl (Nat.le_of_ble_eq_true rfl) dc_H_lock_2 rfl (fun E pE => th_outX C hQ (fun _ h => nomatch h) (by decide) (by decide) (Or.inr ⟨E, _, rfl, rfl, hI, pE.1⟩)) (fun p1 => ?_)
  try simp only [th_l_3] at p1
  refine th_iload_n C dc_H_lock_5 rfl rfl ?_
  have w2 : w.toInt = 0 ∨ w.toInt = 1 ∨ w.toInt = 2 ∨ w.toInt = 3 ∨ (w.toInt < 0 ∨ 3 < w.toInt) := by omega
  rcases w2 with w2 | w2 | w2 | w2 | w2
  · refine th_tableIn (tgt := 36) C dc_H_lock_6 (by omega) (by omega) (by rw [w2]; rfl) (by decide) ?_
    refine th_aload_n C dc_H_lock_36 rfl rfl ?_
    refine tq_getR C dc_H_lock_37 cl_0 fd_H_20 rfl (show 0 < 1 from by omega) rfl ?_
    refine th_iload_n C dc_H_lock_40 rfl rfl ?_
    obtain ⟨n3, m3⟩ := th_nat (a := m.toInt) (by omega)
    refine tq_aaldN C dc_H_lock_41 rfl (fun _ => rfl) (show 0 < 1 from by omega) rfl m3 (show n3 < 3 from by omega) (fun _ => rfl) ?_
    refine tq_getI C dc_H_lock_42 cl_16 fd_H_146 rfl (show n3 < 3 from by omega) (fun x4 e4 => ?_)
    have g4 : x4.toInt = (I 16 n3 1).toInt := by rw [e4]
    exact th_iret C hQ dc_H_lock_45 (by decide) (by decide) (Or.inl ⟨_, _, rfl, rfl, hI, trivial⟩)
  · refine th_tableIn (tgt := 46) C dc_H_lock_6 (by omega) (by omega) (by rw [w2]; rfl) (by decide) ?_
    refine th_aload_n C dc_H_lock_46 rfl rfl ?_
    refine tq_getR C dc_H_lock_47 cl_0 fd_H_20 rfl (show 0 < 1 from by omega) rfl ?_
    refine th_iload_n C dc_H_lock_50 rfl rfl ?_
    obtain ⟨n5, m5⟩ := th_nat (a := m.toInt) (by omega)
    refine tq_aaldN C dc_H_lock_51 rfl (fun _ => rfl) (show 0 < 1 from by omega) rfl m5 (show n5 < 3 from by omega) (fun _ => rfl) ?_
    refine tq_getI C dc_H_lock_52 cl_16 fd_H_149 rfl (show n5 < 3 from by omega) (fun x6 e6 => ?_)
    have g6 : x6.toInt = (I 16 n5 2).toInt := by rw [e6]
    exact th_iret C hQ dc_H_lock_55 (by decide) (by decide) (Or.inl ⟨_, _, rfl, rfl, hI, trivial⟩)
  · refine th_tableIn (tgt := 56) C dc_H_lock_6 (by omega) (by omega) (by rw [w2]; rfl) (by decide) ?_
    refine th_aload_n C dc_H_lock_56 rfl rfl ?_
    refine tq_getR C dc_H_lock_57 cl_0 fd_H_20 rfl (show 0 < 1 from by omega) rfl ?_
    refine th_iload_n C dc_H_lock_60 rfl rfl ?_
    obtain ⟨n7, m7⟩ := th_nat (a := m.toInt) (by omega)
    refine tq_aaldN C dc_H_lock_61 rfl (fun _ => rfl) (show 0 < 1 from by omega) rfl m7 (show n7 < 3 from by omega) (fun _ => rfl) ?_
    refine tq_getR C dc_H_lock_62 cl_16 fd_H_152 rfl (show n7 < 3 from by omega) rfl ?_
    refine tq_getI C dc_H_lock_65 cl_14 fd_H_142 rfl (show 5 + n7 < 11 from by omega) (fun x8 e8 => ?_)
    have g8 : x8.toInt = (I 14 (5 + n7) 1).toInt := by rw [e8]
    have r8 : 0 ≤ x8.toInt ∧ x8.toInt ≤ 5 := by rw [e8]; exact hI.1 14 (5 + n7) 1
    exact th_iret C hQ dc_H_lock_68 (by decide) (by decide) (Or.inl ⟨_, _, rfl, rfl, hI, trivial⟩)
  · refine th_tableIn (tgt := 69) C dc_H_lock_6 (by omega) (by omega) (by rw [w2]; rfl) (by decide) ?_
    refine th_aload_n C dc_H_lock_69 rfl rfl ?_
    refine tq_getR C dc_H_lock_70 cl_0 fd_H_27 rfl (show 0 < 1 from by omega) rfl ?_
    refine th_iload_n C dc_H_lock_73 rfl rfl ?_
    obtain ⟨n9, m9⟩ := th_nat (a := m.toInt) (by omega)
    refine tq_aaldN C dc_H_lock_74 rfl (fun _ => rfl) (show 0 < 1 from by omega) rfl m9 (show n9 < 3 from by omega) (fun _ => rfl) ?_
    refine tq_getI C dc_H_lock_75 cl_14 fd_H_142 rfl (show 8 + n9 < 11 from by omega) (fun x10 e10 => ?_)
    have g10 : x10.toInt = (I 14 (8 + n9) 1).toInt := by rw [e10]
    have r10 : 0 ≤ x10.toInt ∧ x10.toInt ≤ 5 := by rw [e10]; exact hI.1 14 (8 + n9) 1
    exact th_iret C hQ dc_H_lock_78 (by decide) (by decide) (Or.inl ⟨_, _, rfl, rfl, hI, trivial⟩)
  · refine th_tableOut (tgt := 79) C dc_H_lock_6 w2 (by decide) ?_
    exact th_throw C hQ okT_H_143 dc_H_lock_79 dc_H_lock_82 dc_H_lock_83 dc_H_lock_86 (fun _ h => nomatch h) (by decide) (by decide) (by decide) (by decide) (by decide) (by decide) rfl (Or.inr ⟨_, _, rfl, rfl, hI, rfl⟩)

set_option maxRecDepth 100000 in
set_option maxHeartbeats 4000000 in
theorem c_H_said (l : Launch) (hl : l.stackTraces = false) {K sl : Int} {Z : th_I} (I : th_I) (k : Int32) (hI : th_Inv K sl Z I) : th_F l yn_H_said cb_H_said 2 (some .int) { frames := 6, cells := 1, slots := 6, locals := 89 } [.inr (some (0, 0)), .inl k] (th_m I) (th_rm (fun x J => th_Inv K sl Z J ∧ (True)) (fun E J => th_Inv K sl Z J ∧ (E = th_IOB))) := by
  refine th_of hl (by decide +kernel) (Nat.le_of_ble_eq_true rfl) (fun z C hQ hN => ?_)
  show th_G l z 2 0 [(0, .inr (some (0, 0))), (1, .inl k)] [] (th_m I) 0 0
  have hb := hI.2.2.1
  refine th_iload_n C dc_H_said_0 rfl rfl ?_
  refine tq_if_lt (tgt := 18) C dc_H_said_1 (by decide) rfl (fun c1 => ?_) (fun c1 => ?_)
  · exact th_throw C hQ okT_H_72 dc_H_said_18 dc_H_said_21 dc_H_said_22 dc_H_said_25 (fun _ h => nomatch h) (by decide) (by decide) (by decide) (by decide) (by decide) (by decide) rfl (Or.inr ⟨_, _, rfl, rfl, hI, rfl⟩)
  · refine th_iload_n C dc_H_said_4 rfl rfl ?_
    refine th_aload_n C dc_H_said_5 rfl rfl ?_
    refine tq_getI C dc_H_said_6 cl_0 fd_H_155 rfl (show 0 < 1 from by omega) (fun x2 e2 => ?_)
    have g2 : x2.toInt = (I 0 0 5).toInt := by rw [e2]
    have r2 : 0 ≤ x2.toInt ∧ x2.toInt ≤ K := by rw [e2]; exact hI.1 0 0 5
    refine tq_icmp_ge (tgt := 18) C dc_H_said_9 (by decide) rfl rfl (fun c3 => ?_) (fun c3 => ?_)
    · exact th_throw C hQ okT_H_72 dc_H_said_18 dc_H_said_21 dc_H_said_22 dc_H_said_25 (fun _ h => nomatch h) (by decide) (by decide) (by decide) (by decide) (by decide) (by decide) rfl (Or.inr ⟨_, _, rfl, rfl, hI, rfl⟩)
    · refine th_iload_n C dc_H_said_12 rfl rfl ?_
      refine th_bipush (v := 40) C dc_H_said_13 th_b_40 ?_
      refine tq_icmp_lt (tgt := 26) C dc_H_said_15 (by decide) rfl th_l_40 (fun c4 => ?_) (fun c4 => ?_)
      · refine th_aload_n C dc_H_said_26 rfl rfl ?_
        refine tq_getR C dc_H_said_27 cl_0 fd_H_36 rfl (show 0 < 1 from by omega) rfl ?_
        refine th_iload_n C dc_H_said_30 rfl rfl ?_
        obtain ⟨n6, m6⟩ := th_nat (a := k.toInt) (by omega)
        refine tq_ialdN C dc_H_said_31 rfl (fun _ => rfl) (show 0 < 1 from by omega) rfl m6 (show n6 < 40 from by omega) (fun x5 e5 => ?_)
        have g5 : x5.toInt = (I 5 0 n6).toInt := by rw [e5]
        exact th_iret C hQ dc_H_said_32 (by decide) (by decide) (Or.inl ⟨_, _, rfl, rfl, hI, trivial⟩)
      · exact th_throw C hQ okT_H_72 dc_H_said_18 dc_H_said_21 dc_H_said_22 dc_H_said_25 (fun _ h => nomatch h) (by decide) (by decide) (by decide) (by decide) (by decide) (by decide) rfl (Or.inr ⟨_, _, rfl, rfl, hI, rfl⟩)

set_option maxRecDepth 100000 in
set_option maxHeartbeats 4000000 in
theorem c_H_count (l : Launch) (hl : l.stackTraces = false) {K sl : Int} {Z : th_I} (I : th_I) (w : Int32) (hI : th_Inv K sl Z I) : th_F l yn_H_count cb_H_count 2 (some .int) { frames := 6, cells := 1, slots := 6, locals := 89 } [.inr (some (0, 0)), .inl w] (th_m I) (th_rm (fun x J => th_Inv K sl Z J ∧ (True)) (fun E J => th_Inv K sl Z J ∧ (E = th_IAE))) := by
  refine th_of hl (by decide +kernel) (Nat.le_of_ble_eq_true rfl) (fun z C hQ hN => ?_)
  show th_G l z 2 0 [(0, .inr (some (0, 0))), (1, .inl w)] [] (th_m I) 0 0
  have hb := hI.2.2.1
  refine th_iload_n C dc_H_count_0 rfl rfl ?_
  have w1 : w.toInt = 0 ∨ w.toInt = 1 ∨ w.toInt = 2 ∨ w.toInt = 3 ∨ w.toInt = 4 ∨ w.toInt = 5 ∨ w.toInt = 6 ∨ w.toInt = 7 ∨ (w.toInt < 0 ∨ 7 < w.toInt) := by omega
  rcases w1 with w1 | w1 | w1 | w1 | w1 | w1 | w1 | w1 | w1
  · refine th_tableIn (tgt := 48) C dc_H_count_1 (by omega) (by omega) (by rw [w1]; rfl) (by decide) ?_
    refine th_aload_n C dc_H_count_48 rfl rfl ?_
    refine tq_getI C dc_H_count_49 cl_0 fd_H_155 rfl (show 0 < 1 from by omega) (fun x2 e2 => ?_)
    have g2 : x2.toInt = (I 0 0 5).toInt := by rw [e2]
    have r2 : 0 ≤ x2.toInt ∧ x2.toInt ≤ K := by rw [e2]; exact hI.1 0 0 5
    exact th_iret C hQ dc_H_count_52 (by decide) (by decide) (Or.inl ⟨_, _, rfl, rfl, hI, trivial⟩)
  · refine th_tableIn (tgt := 53) C dc_H_count_1 (by omega) (by omega) (by rw [w1]; rfl) (by decide) ?_
    refine th_aload_n C dc_H_count_53 rfl rfl ?_
    refine tq_getI C dc_H_count_54 cl_0 fd_H_89 rfl (show 0 < 1 from by omega) (fun x3 e3 => ?_)
    have g3 : x3.toInt = (I 0 0 9).toInt := by rw [e3]
    exact th_iret C hQ dc_H_count_57 (by decide) (by decide) (Or.inl ⟨_, _, rfl, rfl, hI, trivial⟩)
  · refine th_tableIn (tgt := 58) C dc_H_count_1 (by omega) (by omega) (by rw [w1]; rfl) (by decide) ?_
    refine th_aload_n C dc_H_count_58 rfl rfl ?_
    refine tq_getI C dc_H_count_59 cl_0 fd_H_158 rfl (show 0 < 1 from by omega) (fun x4 e4 => ?_)
    have g4 : x4.toInt = (I 0 0 8).toInt := by rw [e4]
    exact th_iret C hQ dc_H_count_62 (by decide) (by decide) (Or.inl ⟨_, _, rfl, rfl, hI, trivial⟩)
  · refine th_tableIn (tgt := 63) C dc_H_count_1 (by omega) (by omega) (by rw [w1]; rfl) (by decide) ?_
    refine th_aload_n C dc_H_count_63 rfl rfl ?_
    refine tq_callVp C (c_H_aliveCount l hl I hI) ok_H_161 cl_0 (show 0 < 1 from by omega) rfl (Nat.le_of_ble_eq_true rfl) dc_H_count_64 rfl (fun x5 p5 => ?_)
    exact th_iret C hQ dc_H_count_67 (by decide) (by decide) (Or.inl ⟨_, _, rfl, rfl, hI, trivial⟩)
  · refine th_tableIn (tgt := 68) C dc_H_count_1 (by omega) (by omega) (by rw [w1]; rfl) (by decide) ?_
    refine th_aload_n C dc_H_count_68 rfl rfl ?_
    refine tq_callVp C (c_H_readyCount l hl I hI) ok_H_164 cl_0 (show 0 < 1 from by omega) rfl (Nat.le_of_ble_eq_true rfl) dc_H_count_69 rfl (fun x6 p6 => ?_)
    exact th_iret C hQ dc_H_count_72 (by decide) (by decide) (Or.inl ⟨_, _, rfl, rfl, hI, trivial⟩)
  · refine th_tableIn (tgt := 73) C dc_H_count_1 (by omega) (by omega) (by rw [w1]; rfl) (by decide) ?_
    refine th_aload_n C dc_H_count_73 rfl rfl ?_
    refine tq_getI C dc_H_count_74 cl_0 fd_H_167 rfl (show 0 < 1 from by omega) (fun x7 e7 => ?_)
    have g7 : x7.toInt = (I 0 0 10).toInt := by rw [e7]
    exact th_iret C hQ dc_H_count_77 (by decide) (by decide) (Or.inl ⟨_, _, rfl, rfl, hI, trivial⟩)
  · refine th_tableIn (tgt := 78) C dc_H_count_1 (by omega) (by omega) (by rw [w1]; rfl) (by decide) ?_
    refine th_aload_n C dc_H_count_78 rfl rfl ?_
    refine tq_getI C dc_H_count_79 cl_0 fd_H_43 rfl (show 0 < 1 from by omega) (fun x8 e8 => ?_)
    have g8 : x8.toInt = (I 0 0 7).toInt := by rw [e8]
    have r8 : -1 ≤ x8.toInt ∧ x8.toInt ≤ 4 := by rw [e8]; exact hI.1 0 0 7
    exact th_iret C hQ dc_H_count_82 (by decide) (by decide) (Or.inl ⟨_, _, rfl, rfl, hI, trivial⟩)
  · refine th_tableIn (tgt := 83) C dc_H_count_1 (by omega) (by omega) (by rw [w1]; rfl) (by decide) ?_
    refine th_aload_n C dc_H_count_83 rfl rfl ?_
    refine tq_getI C dc_H_count_84 cl_0 fd_H_170 rfl (show 0 < 1 from by omega) (fun x9 e9 => ?_)
    have g9 : x9.toInt = (I 0 0 11).toInt := by rw [e9]
    exact th_iret C hQ dc_H_count_87 (by decide) (by decide) (Or.inl ⟨_, _, rfl, rfl, hI, trivial⟩)
  · refine th_tableOut (tgt := 88) C dc_H_count_1 w1 (by decide) ?_
    exact th_throw C hQ okT_H_143 dc_H_count_88 dc_H_count_91 dc_H_count_92 dc_H_count_95 (fun _ h => nomatch h) (by decide) (by decide) (by decide) (by decide) (by decide) (by decide) rfl (Or.inr ⟨_, _, rfl, rfl, hI, rfl⟩)

