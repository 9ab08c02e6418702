set_option maxRecDepth 100000 in
set_option maxHeartbeats 4000000 in
theorem o_O_slice (l : Launch) (hl : l.stackTraces = false) {K sl : Int} {Z : th_I} (I : th_I) (n : Int32) (hI : th_OI K sl Z I) : th_F l yn_O_slice cb_O_slice 3 (some .int) { frames := 1, cells := 0, slots := 0, locals := 22 } [.inr (some (20, 0)), .inl n] (th_m I) (th_ri (fun x J => (th_OI K n.toInt Z J ∧ (1 ≤ n.toInt ∧ n.toInt ≤ 20) ∧ x.toInt = sl ∧ (J 20 0 34).toInt = 0) ∨ (th_OI K sl Z J ∧ ¬ (1 ≤ n.toInt ∧ n.toInt ≤ 20) ∧ (J 20 0 34).toInt = 1))) := by
  refine th_of hl (by decide +kernel) (Nat.le_of_ble_eq_true rfl) (fun z C hQ hN => ?_)
  show th_G l z 3 0 [(0, .inr (some (20, 0))), (1, .inl n)] [] (th_m I) 0 0
  have hb := hI.2.2.1
  refine th_aload_n C dc_O_slice_0 rfl rfl ?_
  refine th_iconst (v := 0) C dc_O_slice_1 th_c_0 ?_
  refine tq_putI C dc_O_slice_2 cl_20 fd_O_114 rfl (show 0 < 1 from by omega) rfl rfl ?_
  refine th_gen (P := fun J => th_OI K sl Z J ∧ J = th_u I 20 0 34 ((0 : Int32))) ⟨ro_put hI rfl trivial, rfl⟩ (fun I1 hI1 => ?_)
  obtain ⟨hI1, u1⟩ := hI1
  have e1 : (0 : Int32) = I1 20 0 34 := by rw [u1, th_u_eq]
  have g1 : 0 = (I1 20 0 34).toInt := by rw [← e1]; exact th_l_0.symm
  refine th_iload_n C dc_O_slice_5 rfl rfl ?_
  refine th_iconst (v := 1) C dc_O_slice_6 th_c_1 ?_
  refine th_bipush (v := 20) C dc_O_slice_7 th_b_20 ?_
  refine tq_callSp C (o_O_is l hl I1 n ((1 : Int32)) ((20 : Int32))) ok_O_117 rfl (Nat.le_of_ble_eq_true rfl) dc_O_slice_9 rfl (fun x2 p2 => ?_)
  try simp only [th_l_1, th_l_20] at p2
  refine tq_if_ne (tgt := 21) C dc_O_slice_12 (by decide) rfl (fun c3 => ?_) (fun c3 => ?_)
  · refine th_aload_n C dc_O_slice_21 rfl rfl ?_
    refine tq_getI C dc_O_slice_22 cl_20 fd_O_110 rfl (show 0 < 1 from by omega) (fun x4 e4 => ?_)
    have g4 : x4.toInt = (I1 20 0 33).toInt := by rw [e4]
    have r4 : x4.toInt = sl ∨ 0 < 0 := by rw [e4]; exact hI1.1 20 0 33
    refine th_istore_n (lv' := [(0, .inr (some (20, 0))), (1, .inl n), (2, .inl x4)]) C dc_O_slice_25 rfl (by decide) rfl ?_
    refine th_aload_n C dc_O_slice_26 rfl rfl ?_
    refine th_iload_n C dc_O_slice_27 rfl rfl ?_
    refine tq_putI C dc_O_slice_28 cl_20 fd_O_110 rfl (show 0 < 1 from by omega) rfl rfl ?_
    refine th_gen (P := fun J => th_OI K n.toInt Z J ∧ J = th_u I1 20 0 33 n) ⟨ro_slice hI1 (by omega), rfl⟩ (fun I5 hI5 => ?_)
    obtain ⟨hI5, u5⟩ := hI5
    have e6 : (0 : Int32) = I5 20 0 34 := by rw [u5, th_u_slot (by decide)]; exact e1
    have g6 : (0 : Int32).toInt = (I5 20 0 34).toInt := by rw [← e6]
    have e5 : n = I5 20 0 33 := by rw [u5, th_u_eq]
    have g5 : n.toInt = (I5 20 0 33).toInt := by rw [← e5]
    refine th_iload_n C dc_O_slice_31 rfl rfl ?_
    exact th_iret C hQ dc_O_slice_32 (by decide) (by decide) ⟨_, _, rfl, rfl, Or.inl ⟨hI5, by omega, by omega, by have := th_l_0; omega⟩⟩
  · refine th_aload_n C dc_O_slice_15 rfl rfl ?_
    refine th_iconst (v := 1) C dc_O_slice_16 th_c_1 ?_
    refine tq_callVi C (o_O_refuse l hl I1 ((1 : Int32)) hI1) ok_O_124 cl_20 (show 0 < 1 from by omega) rfl (Nat.le_of_ble_eq_true rfl) dc_O_slice_17 rfl (fun x7 I7 p7 => ?_)
    obtain ⟨hI7, p7⟩ := p7
    try simp only [th_l_1] at p7
    exact th_iret C hQ dc_O_slice_20 (by decide) (by decide) ⟨_, _, rfl, rfl, Or.inr ⟨hI7, by omega, by omega⟩⟩

set_option maxRecDepth 100000 in
set_option maxHeartbeats 4000000 in
theorem o_O_count (l : Launch) (hl : l.stackTraces = false) {K sl : Int} {Z : th_I} (I : th_I) (w : Int32) (hI : th_OI K sl Z I) : th_F l yn_O_count cb_O_count 4 (some .int) { frames := 1, cells := 0, slots := 0, locals := 22 } [.inr (some (20, 0)), .inl w] (th_m I) (th_ri (fun x J => th_OI K sl Z J ∧ (True))) := by
  refine th_of hl (by decide +kernel) (Nat.le_of_ble_eq_true rfl) (fun z C hQ hN => ?_)
  show th_G l z 4 0 [(0, .inr (some (20, 0))), (1, .inl w)] [] (th_m I) 0 0
  have hb := hI.2.2.1
  refine th_aload_n C dc_O_count_0 rfl rfl ?_
  refine th_iconst (v := 0) C dc_O_count_1 th_c_0 ?_
  refine tq_putI C dc_O_count_2 cl_20 fd_O_114 rfl (show 0 < 1 from by omega) rfl rfl ?_
  refine th_gen (P := fun J => th_OI K sl Z J ∧ J = th_u I 20 0 34 ((0 : Int32))) ⟨ro_put hI rfl trivial, rfl⟩ (fun I1 hI1 => ?_)
  obtain ⟨hI1, u1⟩ := hI1
  have e1 : (0 : Int32) = I1 20 0 34 := by rw [u1, th_u_eq]
  have g1 : 0 = (I1 20 0 34).toInt := by rw [← e1]; exact th_l_0.symm
  refine th_iload_n C dc_O_count_5 rfl rfl ?_
  refine th_iconst (v := 0) C dc_O_count_6 th_c_0 ?_
  refine th_bipush (v := 7) C dc_O_count_7 th_b_7 ?_
  refine tq_callSp C (o_O_is l hl I1 w ((0 : Int32)) ((7 : Int32))) ok_O_117 rfl (Nat.le_of_ble_eq_true rfl) dc_O_count_9 rfl (fun x2 p2 => ?_)
  try simp only [th_l_0, th_l_7] at p2
  refine tq_if_ne (tgt := 21) C dc_O_count_12 (by decide) rfl (fun c3 => ?_) (fun c3 => ?_)
  · refine th_iload_n C dc_O_count_21 rfl rfl ?_
    refine th_iconst (v := 3) C dc_O_count_22 th_c_3 ?_
    refine tq_icmp_eq (tgt := 38) C dc_O_count_23 (by decide) rfl th_l_3 (fun c4 => ?_) (fun c4 => ?_)
    · refine th_iconst (v := 0) C dc_O_count_38 th_c_0 ?_
      refine th_istore_n (lv' := [(0, .inr (some (20, 0))), (1, .inl w), (2, .inl ((0 : Int32)))]) C dc_O_count_39 rfl (by decide) rfl ?_
      refine th_iconst (v := 0) C dc_O_count_40 th_c_0 ?_
      refine th_istore_n (lv' := [(0, .inr (some (20, 0))), (1, .inl w), (2, .inl ((0 : Int32))), (3, .inl ((0 : Int32)))]) C dc_O_count_41 rfl (by decide) rfl ?_
      have L42 : ∀ (N : Nat) (a : Int32) (k : Int32), (0 ≤ k.toInt ∧ k.toInt ≤ 5) → (5 - k.toInt).toNat < N → th_G l z 4 42 [(0, .inr (some (20, 0))), (1, .inl w), (2, .inl a), (3, .inl k)] [] (th_m I1) 0 0 := by
        intro N
        induction N with
        | zero => intro a k h1 hm; exact absurd hm (Nat.not_lt_zero _)
        | succ N ih =>
          intro a k h1 hm
          refine th_iload_n C dc_O_count_42 rfl rfl ?_
          refine th_iconst (v := 5) C dc_O_count_43 th_c_5 ?_
          refine tq_icmp_ge (tgt := 82) C dc_O_count_44 (by decide) rfl th_l_5 (fun c6 => ?_) (fun c6 => ?_)
          · refine th_iload_n C dc_O_count_82 rfl rfl ?_
            exact th_iret C hQ dc_O_count_83 (by decide) (by decide) ⟨_, _, rfl, rfl, hI1, trivial⟩
          · refine th_iload_n C dc_O_count_47 rfl rfl ?_
            refine th_iconst (v := 3) C dc_O_count_48 th_c_3 ?_
            refine tq_icmp_ne (tgt := 63) C dc_O_count_49 (by decide) rfl th_l_3 (fun c7 => ?_) (fun c7 => ?_)
            · refine th_aload_n C dc_O_count_63 rfl rfl ?_
              refine tq_getR C dc_O_count_64 cl_20 fd_O_43 rfl (show 0 < 1 from by omega) rfl ?_
              refine th_iload_n C dc_O_count_67 rfl rfl ?_
              obtain ⟨n9, m9⟩ := th_nat (a := k.toInt) (by omega)
              refine tq_ialdN C dc_O_count_68 rfl (fun _ => rfl) (show 0 < 1 from by omega) rfl m9 (show n9 < 5 from by omega) (fun x8 e8 => ?_)
              have g8 : x8.toInt = (I1 32 0 n9).toInt := by rw [e8]
              refine th_iconst (v := 1) C dc_O_count_69 th_c_1 ?_
              refine tq_icmp_ne (tgt := 76) C dc_O_count_70 (by decide) rfl th_l_1 (fun c10 => ?_) (fun c10 => ?_)
              · refine tq_iinc (lv' := fun rr => [(0, .inr (some (20, 0))), (1, .inl w), (2, .inl a), (3, .inl rr)]) C dc_O_count_76 rfl (by decide) th_c_1 rfl th_l_1 (fun rr => rfl) (fun x11 e11 a11 => ?_)
                refine th_goto (tgt := 42) C dc_O_count_79 (by decide) ?_
                exact ih a x11 (by omega) (by omega)
              · refine tq_iinc (lv' := fun rr => [(0, .inr (some (20, 0))), (1, .inl w), (2, .inl rr), (3, .inl k)]) C dc_O_count_73 rfl (by decide) th_c_1 rfl th_l_1 (fun rr => rfl) (fun x12 e12 a12 => ?_)
                refine tq_iinc (lv' := fun rr => [(0, .inr (some (20, 0))), (1, .inl w), (2, .inl x12), (3, .inl rr)]) C dc_O_count_76 rfl (by decide) th_c_1 rfl th_l_1 (fun rr => rfl) (fun x13 e13 a13 => ?_)
                refine th_goto (tgt := 42) C dc_O_count_79 (by decide) ?_
                exact ih x12 x13 (by omega) (by omega)
            · refine th_aload_n C dc_O_count_52 rfl rfl ?_
              refine th_iload_n C dc_O_count_53 rfl rfl ?_
              obtain ⟨n14, m14⟩ := th_nat (a := k.toInt) (by omega)
              refine tq_callVp C (o_O_alive l hl I1 k n14 hI1 m14 (by omega)) ok_O_128 cl_20 (show 0 < 1 from by omega) rfl (Nat.le_of_ble_eq_true rfl) dc_O_count_54 rfl (fun x15 p15 => ?_)
              refine tq_if_eq (tgt := 76) C dc_O_count_57 (by decide) rfl (fun c16 => ?_) (fun c16 => ?_)
              · refine tq_iinc (lv' := fun rr => [(0, .inr (some (20, 0))), (1, .inl w), (2, .inl a), (3, .inl rr)]) C dc_O_count_76 rfl (by decide) th_c_1 rfl th_l_1 (fun rr => rfl) (fun x17 e17 a17 => ?_)
                refine th_goto (tgt := 42) C dc_O_count_79 (by decide) ?_
                exact ih a x17 (by omega) (by omega)
              · refine th_goto (tgt := 73) C dc_O_count_60 (by decide) ?_
                refine tq_iinc (lv' := fun rr => [(0, .inr (some (20, 0))), (1, .inl w), (2, .inl rr), (3, .inl k)]) C dc_O_count_73 rfl (by decide) th_c_1 rfl th_l_1 (fun rr => rfl) (fun x18 e18 a18 => ?_)
                refine tq_iinc (lv' := fun rr => [(0, .inr (some (20, 0))), (1, .inl w), (2, .inl x18), (3, .inl rr)]) C dc_O_count_76 rfl (by decide) th_c_1 rfl th_l_1 (fun rr => rfl) (fun x19 e19 a19 => ?_)
                refine th_goto (tgt := 42) C dc_O_count_79 (by decide) ?_
                exact ih x18 x19 (by omega) (by omega)
      exact L42 _ ((0 : Int32)) ((0 : Int32)) (by have := th_l_0; omega) (Nat.lt_succ_self _)
    · refine th_iload_n C dc_O_count_26 rfl rfl ?_
      refine th_iconst (v := 4) C dc_O_count_27 th_c_4 ?_
      refine tq_icmp_eq (tgt := 38) C dc_O_count_28 (by decide) rfl th_l_4 (fun c20 => ?_) (fun c20 => ?_)
      · refine th_iconst (v := 0) C dc_O_count_38 th_c_0 ?_
        refine th_istore_n (lv' := [(0, .inr (some (20, 0))), (1, .inl w), (2, .inl ((0 : Int32)))]) C dc_O_count_39 rfl (by decide) rfl ?_
        refine th_iconst (v := 0) C dc_O_count_40 th_c_0 ?_
        refine th_istore_n (lv' := [(0, .inr (some (20, 0))), (1, .inl w), (2, .inl ((0 : Int32))), (3, .inl ((0 : Int32)))]) C dc_O_count_41 rfl (by decide) rfl ?_
        have L42 : ∀ (N : Nat) (a : Int32) (k : Int32), (0 ≤ k.toInt ∧ k.toInt ≤ 5) → (5 - k.toInt).toNat < N → th_G l z 4 42 [(0, .inr (some (20, 0))), (1, .inl w), (2, .inl a), (3, .inl k)] [] (th_m I1) 0 0 := by
          intro N
          induction N with
          | zero => intro a k h1 hm; exact absurd hm (Nat.not_lt_zero _)
          | succ N ih =>
            intro a k h1 hm
            refine th_iload_n C dc_O_count_42 rfl rfl ?_
            refine th_iconst (v := 5) C dc_O_count_43 th_c_5 ?_
            refine tq_icmp_ge (tgt := 82) C dc_O_count_44 (by decide) rfl th_l_5 (fun c22 => ?_) (fun c22 => ?_)
            · refine th_iload_n C dc_O_count_82 rfl rfl ?_
              exact th_iret C hQ dc_O_count_83 (by decide) (by decide) ⟨_, _, rfl, rfl, hI1, trivial⟩
            · refine th_iload_n C dc_O_count_47 rfl rfl ?_
              refine th_iconst (v := 3) C dc_O_count_48 th_c_3 ?_
              refine tq_icmp_ne (tgt := 63) C dc_O_count_49 (by decide) rfl th_l_3 (fun c23 => ?_) (fun c23 => ?_)
              · refine th_aload_n C dc_O_count_63 rfl rfl ?_
                refine tq_getR C dc_O_count_64 cl_20 fd_O_43 rfl (show 0 < 1 from by omega) rfl ?_
                refine th_iload_n C dc_O_count_67 rfl rfl ?_
                obtain ⟨n25, m25⟩ := th_nat (a := k.toInt) (by omega)
                refine tq_ialdN C dc_O_count_68 rfl (fun _ => rfl) (show 0 < 1 from by omega) rfl m25 (show n25 < 5 from by omega) (fun x24 e24 => ?_)
                have g24 : x24.toInt = (I1 32 0 n25).toInt := by rw [e24]
                refine th_iconst (v := 1) C dc_O_count_69 th_c_1 ?_
                refine tq_icmp_ne (tgt := 76) C dc_O_count_70 (by decide) rfl th_l_1 (fun c26 => ?_) (fun c26 => ?_)
                · refine tq_iinc (lv' := fun rr => [(0, .inr (some (20, 0))), (1, .inl w), (2, .inl a), (3, .inl rr)]) C dc_O_count_76 rfl (by decide) th_c_1 rfl th_l_1 (fun rr => rfl) (fun x27 e27 a27 => ?_)
                  refine th_goto (tgt := 42) C dc_O_count_79 (by decide) ?_
                  exact ih a x27 (by omega) (by omega)
                · refine tq_iinc (lv' := fun rr => [(0, .inr (some (20, 0))), (1, .inl w), (2, .inl rr), (3, .inl k)]) C dc_O_count_73 rfl (by decide) th_c_1 rfl th_l_1 (fun rr => rfl) (fun x28 e28 a28 => ?_)
                  refine tq_iinc (lv' := fun rr => [(0, .inr (some (20, 0))), (1, .inl w), (2, .inl x28), (3, .inl rr)]) C dc_O_count_76 rfl (by decide) th_c_1 rfl th_l_1 (fun rr => rfl) (fun x29 e29 a29 => ?_)
                  refine th_goto (tgt := 42) C dc_O_count_79 (by decide) ?_
                  exact ih x28 x29 (by omega) (by omega)
              · refine th_aload_n C dc_O_count_52 rfl rfl ?_
                refine th_iload_n C dc_O_count_53 rfl rfl ?_
                obtain ⟨n30, m30⟩ := th_nat (a := k.toInt) (by omega)
                refine tq_callVp C (o_O_alive l hl I1 k n30 hI1 m30 (by omega)) ok_O_128 cl_20 (show 0 < 1 from by omega) rfl (Nat.le_of_ble_eq_true rfl) dc_O_count_54 rfl (fun x31 p31 => ?_)
                refine tq_if_eq (tgt := 76) C dc_O_count_57 (by decide) rfl (fun c32 => ?_) (fun c32 => ?_)
                · refine tq_iinc (lv' := fun rr => [(0, .inr (some (20, 0))), (1, .inl w), (2, .inl a), (3, .inl rr)]) C dc_O_count_76 rfl (by decide) th_c_1 rfl th_l_1 (fun rr => rfl) (fun x33 e33 a33 => ?_)
                  refine th_goto (tgt := 42) C dc_O_count_79 (by decide) ?_
                  exact ih a x33 (by omega) (by omega)
                · refine th_goto (tgt := 73) C dc_O_count_60 (by decide) ?_
                  refine tq_iinc (lv' := fun rr => [(0, .inr (some (20, 0))), (1, .inl w), (2, .inl rr), (3, .inl k)]) C dc_O_count_73 rfl (by decide) th_c_1 rfl th_l_1 (fun rr => rfl) (fun x34 e34 a34 => ?_)
                  refine tq_iinc (lv' := fun rr => [(0, .inr (some (20, 0))), (1, .inl w), (2, .inl x34), (3, .inl rr)]) C dc_O_count_76 rfl (by decide) th_c_1 rfl th_l_1 (fun rr => rfl) (fun x35 e35 a35 => ?_)
                  refine th_goto (tgt := 42) C dc_O_count_79 (by decide) ?_
                  exact ih x34 x35 (by omega) (by omega)
        exact L42 _ ((0 : Int32)) ((0 : Int32)) (by have := th_l_0; omega) (Nat.lt_succ_self _)
      · refine th_aload_n C dc_O_count_31 rfl rfl ?_
        refine tq_getR C dc_O_count_32 cl_20 fd_O_107 rfl (show 0 < 1 from by omega) rfl ?_
        refine th_iload_n C dc_O_count_35 rfl rfl ?_
        obtain ⟨n37, m37⟩ := th_nat (a := w.toInt) (by omega)
        refine tq_ialdN C dc_O_count_36 rfl (fun _ => rfl) (show 0 < 1 from by omega) rfl m37 (show n37 < 8 from by omega) (fun x36 e36 => ?_)
        have g36 : x36.toInt = (I1 53 0 n37).toInt := by rw [e36]
        exact th_iret C hQ dc_O_count_37 (by decide) (by decide) ⟨_, _, rfl, rfl, hI1, trivial⟩
  · refine th_aload_n C dc_O_count_15 rfl rfl ?_
    refine th_iconst (v := 1) C dc_O_count_16 th_c_1 ?_
    refine tq_callVi C (o_O_refuse l hl I1 ((1 : Int32)) hI1) ok_O_124 cl_20 (show 0 < 1 from by omega) rfl (Nat.le_of_ble_eq_true rfl) dc_O_count_17 rfl (fun x38 I38 p38 => ?_)
    obtain ⟨hI38, p38⟩ := p38
    try simp only [th_l_1] at p38
    exact th_iret C hQ dc_O_count_20 (by decide) (by decide) ⟨_, _, rfl, rfl, hI38, trivial⟩

set_option maxRecDepth 100000 in
set_option maxHeartbeats 4000000 in
theorem o_O_add (l : Launch) (hl : l.stackTraces = false) {K sl : Int} {Z : th_I} (I : th_I) (t : Int32) (o : Int32) (a : Int32) (b : Int32) (hI : th_OI K sl Z I) : th_F l yn_O_add cb_O_add 6 (some .int) { frames := 2, cells := 0, slots := 0, locals := 44 } [.inr (some (20, 0)), .inl t, .inl o, .inl a, .inl b] (th_m I) (th_ri (fun x J => th_OI K sl Z J ∧ (True))) := by
  refine th_of hl (by decide +kernel) (Nat.le_of_ble_eq_true rfl) (fun z C hQ hN => ?_)
  show th_G l z 6 0 [(0, .inr (some (20, 0))), (1, .inl t), (2, .inl o), (3, .inl a), (4, .inl b)] [] (th_m I) 0 0
  have hb := hI.2.2.1
  refine th_aload_n C dc_O_add_0 rfl rfl ?_
  refine th_iconst (v := 0) C dc_O_add_1 th_c_0 ?_
  refine tq_putI C dc_O_add_2 cl_20 fd_O_114 rfl (show 0 < 1 from by omega) rfl rfl ?_
  refine th_gen (P := fun J => th_OI K sl Z J ∧ J = th_u I 20 0 34 ((0 : Int32))) ⟨ro_put hI rfl trivial, rfl⟩ (fun I1 hI1 => ?_)
  obtain ⟨hI1, u1⟩ := hI1
  have e1 : (0 : Int32) = I1 20 0 34 := by rw [u1, th_u_eq]
  have g1 : 0 = (I1 20 0 34).toInt := by rw [← e1]; exact th_l_0.symm
  refine th_iload_n C dc_O_add_5 rfl rfl ?_
  refine th_iconst (v := 0) C dc_O_add_6 th_c_0 ?_
  refine th_iconst (v := 4) C dc_O_add_7 th_c_4 ?_
  refine tq_callSp C (o_O_is l hl I1 t ((0 : Int32)) ((4 : Int32))) ok_O_117 rfl (Nat.le_of_ble_eq_true rfl) dc_O_add_8 rfl (fun x2 p2 => ?_)
  try simp only [th_l_0, th_l_4] at p2
  refine tq_if_eq (tgt := 24) C dc_O_add_11 (by decide) rfl (fun c3 => ?_) (fun c3 => ?_)
  · refine th_aload_n C dc_O_add_24 rfl rfl ?_
    refine th_iconst (v := 1) C dc_O_add_25 th_c_1 ?_
    refine tq_callVi C (o_O_refuse l hl I1 ((1 : Int32)) hI1) ok_O_124 cl_20 (show 0 < 1 from by omega) rfl (Nat.le_of_ble_eq_true rfl) dc_O_add_26 rfl (fun x4 I4 p4 => ?_)
    obtain ⟨hI4, p4⟩ := p4
    try simp only [th_l_1] at p4
    exact th_iret C hQ dc_O_add_29 (by decide) (by decide) ⟨_, _, rfl, rfl, hI4, trivial⟩
  · refine th_iload_n C dc_O_add_14 rfl rfl ?_
    refine th_iload_n C dc_O_add_15 rfl rfl ?_
    refine th_iload C dc_O_add_16 rfl ?_
    refine tq_callSp C (o_O_fits l hl I1 o a b) ok_O_121 rfl (Nat.le_of_ble_eq_true rfl) dc_O_add_18 rfl (fun x5 p5 => ?_)
    refine tq_if_ne (tgt := 30) C dc_O_add_21 (by decide) rfl (fun c6 => ?_) (fun c6 => ?_)
    · refine th_aload_n C dc_O_add_30 rfl rfl ?_
      refine th_iload_n C dc_O_add_31 rfl rfl ?_
      obtain ⟨n7, m7⟩ := th_nat (a := t.toInt) (by omega)
      refine tq_callVp C (o_O_alive l hl I1 t n7 hI1 m7 (by omega)) ok_O_128 cl_20 (show 0 < 1 from by omega) rfl (Nat.le_of_ble_eq_true rfl) dc_O_add_32 rfl (fun x8 p8 => ?_)
      refine tq_if_eq (tgt := 44) C dc_O_add_35 (by decide) rfl (fun c9 => ?_) (fun c9 => ?_)
      · refine th_aload_n C dc_O_add_44 rfl rfl ?_
        refine tq_getR C dc_O_add_45 cl_20 fd_O_19 rfl (show 0 < 1 from by omega) rfl ?_
        refine th_iload_n C dc_O_add_48 rfl rfl ?_
        refine tq_ialdN C dc_O_add_49 rfl (fun _ => rfl) (show 0 < 1 from by omega) rfl m7 (show n7 < 5 from by omega) (fun x10 e10 => ?_)
        have g10 : x10.toInt = (I1 24 0 n7).toInt := by rw [e10]
        have r10 : 0 ≤ x10.toInt ∧ x10.toInt ≤ 24 := by rw [e10]; exact hI1.1 24 0 n7
        refine th_bipush (v := 24) C dc_O_add_50 th_b_24 ?_
        refine tq_icmp_ne (tgt := 61) C dc_O_add_52 (by decide) rfl th_l_24 (fun c11 => ?_) (fun c11 => ?_)
        · refine th_bipush (v := 24) C dc_O_add_61 th_b_24 ?_
          refine th_iload_n C dc_O_add_63 rfl rfl ?_
          refine tq_imul C dc_O_add_64 th_l_24 rfl (fun x12 e12 a12 => ?_)
          refine th_aload_n C dc_O_add_65 rfl rfl ?_
          refine tq_getR C dc_O_add_66 cl_20 fd_O_19 rfl (show 0 < 1 from by omega) rfl ?_
          refine th_iload_n C dc_O_add_69 rfl rfl ?_
          refine tq_ialdE C dc_O_add_70 rfl (fun _ => rfl) (show 0 < 1 from by omega) rfl m7 (show n7 < 5 from by omega) e10 ?_
          refine tq_iadd C dc_O_add_71 rfl rfl (fun x14 e14 a14 => ?_)
          refine th_istore (lv' := [(0, .inr (some (20, 0))), (1, .inl t), (2, .inl o), (3, .inl a), (4, .inl b), (5, .inl x14)]) C dc_O_add_72 (by decide) rfl ?_
          refine th_aload_n C dc_O_add_74 rfl rfl ?_
          refine tq_getR C dc_O_add_75 cl_20 fd_O_7 rfl (show 0 < 1 from by omega) rfl ?_
          refine th_iload C dc_O_add_78 rfl ?_
          refine th_iload_n C dc_O_add_80 rfl rfl ?_
          obtain ⟨n15, m15⟩ := th_nat (a := x14.toInt) (by omega)
          refine tq_iastN C dc_O_add_81 rfl (fun _ => rfl) (show 0 < 1 from by omega) rfl m15 (show n15 < 120 from by omega) ?_
          refine th_gen (P := fun J => J = th_u I1 21 0 n15 o) rfl (fun I16 u16 => ?_)
          have e17 : (0 : Int32) = I16 20 0 34 := by rw [u16, th_u_tag (by decide)]; exact e1
          have g17 : (0 : Int32).toInt = (I16 20 0 34).toInt := by rw [← e17]
          have e18 : x10 = I16 24 0 n7 := by rw [u16, th_u_tag (by decide)]; exact e10
          have g18 : x10.toInt = (I16 24 0 n7).toInt := by rw [← e18]
          have e16 : o = I16 21 0 n15 := by rw [u16, th_u_eq]
          have g16 : o.toInt = (I16 21 0 n15).toInt := by rw [← e16]
          refine th_aload_n C dc_O_add_82 rfl rfl ?_
          refine tq_getR C dc_O_add_83 cl_20 fd_O_13 rfl (show 0 < 1 from by omega) rfl ?_
          refine th_iload C dc_O_add_86 rfl ?_
          refine th_iload_n C dc_O_add_88 rfl rfl ?_
          refine tq_iastN C dc_O_add_89 rfl (fun _ => rfl) (show 0 < 1 from by omega) rfl m15 (show n15 < 120 from by omega) ?_
          refine th_gen (P := fun J => J = th_u I16 22 0 n15 a) rfl (fun I19 u19 => ?_)
          have e20 : (0 : Int32) = I19 20 0 34 := by rw [u19, th_u_tag (by decide)]; exact e17
          have g20 : (0 : Int32).toInt = (I19 20 0 34).toInt := by rw [← e20]
          have e21 : x10 = I19 24 0 n7 := by rw [u19, th_u_tag (by decide)]; exact e18
          have g21 : x10.toInt = (I19 24 0 n7).toInt := by rw [← e21]
          have e22 : o = I19 21 0 n15 := by rw [u19, th_u_tag (by decide)]; exact e16
          have g22 : o.toInt = (I19 21 0 n15).toInt := by rw [← e22]
          have e19 : a = I19 22 0 n15 := by rw [u19, th_u_eq]
          have g19 : a.toInt = (I19 22 0 n15).toInt := by rw [← e19]
          refine th_aload_n C dc_O_add_90 rfl rfl ?_
          refine tq_getR C dc_O_add_91 cl_20 fd_O_16 rfl (show 0 < 1 from by omega) rfl ?_
          refine th_iload C dc_O_add_94 rfl ?_
          refine th_iload C dc_O_add_96 rfl ?_
          refine tq_iastN C dc_O_add_98 rfl (fun _ => rfl) (show 0 < 1 from by omega) rfl m15 (show n15 < 120 from by omega) ?_
          refine th_gen (P := fun J => J = th_u I19 23 0 n15 b) rfl (fun I23 u23 => ?_)
          have e24 : (0 : Int32) = I23 20 0 34 := by rw [u23, th_u_tag (by decide)]; exact e20
          have g24 : (0 : Int32).toInt = (I23 20 0 34).toInt := by rw [← e24]
          have e25 : x10 = I23 24 0 n7 := by rw [u23, th_u_tag (by decide)]; exact e21
          have g25 : x10.toInt = (I23 24 0 n7).toInt := by rw [← e25]
          have e26 : o = I23 21 0 n15 := by rw [u23, th_u_tag (by decide)]; exact e22
          have g26 : o.toInt = (I23 21 0 n15).toInt := by rw [← e26]
          have e27 : a = I23 22 0 n15 := by rw [u23, th_u_tag (by decide)]; exact e19
          have g27 : a.toInt = (I23 22 0 n15).toInt := by rw [← e27]
          have e23 : b = I23 23 0 n15 := by rw [u23, th_u_eq]
          have g23 : b.toInt = (I23 23 0 n15).toInt := by rw [← e23]
          refine th_aload_n C dc_O_add_99 rfl rfl ?_
          refine tq_getR C dc_O_add_100 cl_20 fd_O_19 rfl (show 0 < 1 from by omega) rfl ?_
          refine th_iload_n C dc_O_add_103 rfl rfl ?_
          refine th_dup2 C dc_O_add_104 ?_
          refine tq_ialdE C dc_O_add_105 rfl (fun _ => rfl) (show 0 < 1 from by omega) rfl m7 (show n7 < 5 from by omega) e25 ?_
          refine th_iconst (v := 1) C dc_O_add_106 th_c_1 ?_
          refine tq_iadd C dc_O_add_107 rfl th_l_1 (fun x29 e29 a29 => ?_)
          refine th_dup_x2 C dc_O_add_108 ?_
          refine tq_iastN C dc_O_add_109 rfl (fun _ => rfl) (show 0 < 1 from by omega) rfl m7 (show n7 < 5 from by omega) ?_
          refine th_gen (P := fun J => J = th_u I23 24 0 n7 x29) rfl (fun I30 u30 => ?_)
          have e31 : (0 : Int32) = I30 20 0 34 := by rw [u30, th_u_tag (by decide)]; exact e24
          have g31 : (0 : Int32).toInt = (I30 20 0 34).toInt := by rw [← e31]
          have e32 : o = I30 21 0 n15 := by rw [u30, th_u_tag (by decide)]; exact e26
          have g32 : o.toInt = (I30 21 0 n15).toInt := by rw [← e32]
          have e33 : a = I30 22 0 n15 := by rw [u30, th_u_tag (by decide)]; exact e27
          have g33 : a.toInt = (I30 22 0 n15).toInt := by rw [← e33]
          have e34 : b = I30 23 0 n15 := by rw [u30, th_u_tag (by decide)]; exact e23
          have g34 : b.toInt = (I30 23 0 n15).toInt := by rw [← e34]
          have e30 : x29 = I30 24 0 n7 := by rw [u30, th_u_eq]
          have g30 : x29.toInt = (I30 24 0 n7).toInt := by rw [← e30]
          exact th_iret C hQ dc_O_add_110 (by decide) (by decide) ⟨_, _, rfl, rfl, (by rw [u30, u23, u19, u16]; exact ro_app hI1 (p5.resolve_right (fun q => absurd q.1 (by omega))).2 (by omega)), trivial⟩
        · refine th_aload_n C dc_O_add_55 rfl rfl ?_
          refine th_iconst (v := 3) C dc_O_add_56 th_c_3 ?_
          refine tq_callVi C (o_O_refuse l hl I1 ((3 : Int32)) hI1) ok_O_124 cl_20 (show 0 < 1 from by omega) rfl (Nat.le_of_ble_eq_true rfl) dc_O_add_57 rfl (fun x35 I35 p35 => ?_)
          obtain ⟨hI35, p35⟩ := p35
          try simp only [th_l_3] at p35
          exact th_iret C hQ dc_O_add_60 (by decide) (by decide) ⟨_, _, rfl, rfl, hI35, trivial⟩
      · refine th_aload_n C dc_O_add_38 rfl rfl ?_
        refine th_iconst (v := 2) C dc_O_add_39 th_c_2 ?_
        refine tq_callVi C (o_O_refuse l hl I1 ((2 : Int32)) hI1) ok_O_124 cl_20 (show 0 < 1 from by omega) rfl (Nat.le_of_ble_eq_true rfl) dc_O_add_40 rfl (fun x36 I36 p36 => ?_)
        obtain ⟨hI36, p36⟩ := p36
        try simp only [th_l_2] at p36
        exact th_iret C hQ dc_O_add_43 (by decide) (by decide) ⟨_, _, rfl, rfl, hI36, trivial⟩
    · refine th_aload_n C dc_O_add_24 rfl rfl ?_
      refine th_iconst (v := 1) C dc_O_add_25 th_c_1 ?_
      refine tq_callVi C (o_O_refuse l hl I1 ((1 : Int32)) hI1) ok_O_124 cl_20 (show 0 < 1 from by omega) rfl (Nat.le_of_ble_eq_true rfl) dc_O_add_26 rfl (fun x37 I37 p37 => ?_)
      obtain ⟨hI37, p37⟩ := p37
      try simp only [th_l_1] at p37
      exact th_iret C hQ dc_O_add_29 (by decide) (by decide) ⟨_, _, rfl, rfl, hI37, trivial⟩

