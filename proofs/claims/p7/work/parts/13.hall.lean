set_option maxRecDepth 100000 in
set_option maxHeartbeats 4000000 in
theorem c_H_aliveCount (l : Launch) (hl : l.stackTraces = false) {K sl : Int} {Z : th_I} (I : th_I) (hI : th_Inv K sl Z I) : th_F l yn_H_aliveCount cb_H_aliveCount 3 (some .int) { frames := 1, cells := 0, slots := 0, locals := 20 } [.inr (some (0, 0))] (th_m I) (th_rp I (fun x => True)) := by
  refine th_of hl (by decide +kernel) (Nat.le_of_ble_eq_true rfl) (fun z C hQ hN => ?_)
  show th_G l z 3 0 [(0, .inr (some (0, 0)))] [] (th_m I) 0 0
  have hb := hI.2.2.1
  refine th_iconst (v := 0) C dc_H_aliveCount_0 th_c_0 ?_
  refine th_istore_n (lv' := [(0, .inr (some (0, 0))), (1, .inl ((0 : Int32)))]) C dc_H_aliveCount_1 rfl (by decide) rfl ?_
  refine th_iconst (v := 0) C dc_H_aliveCount_2 th_c_0 ?_
  refine th_istore_n (lv' := [(0, .inr (some (0, 0))), (1, .inl ((0 : Int32))), (2, .inl ((0 : Int32)))]) C dc_H_aliveCount_3 rfl (by decide) rfl ?_
  have L4 : ∀ (N : Nat) (a : Int32) (k : Int32), (0 ≤ k.toInt ∧ k.toInt ≤ 5) → (5 - k.toInt).toNat < N → th_G l z 3 4 [(0, .inr (some (0, 0))), (1, .inl a), (2, .inl k)] [] (th_m I) 0 0 := by
    intro N
    induction N with
    | zero => intro a k h1 hm; exact absurd hm (Nat.not_lt_zero _)
    | succ N ih =>
      intro a k h1 hm
      refine th_iload_n C dc_H_aliveCount_4 rfl rfl ?_
      refine th_iconst (v := 5) C dc_H_aliveCount_5 th_c_5 ?_
      refine tq_icmp_ge (tgt := 30) C dc_H_aliveCount_6 (by decide) rfl th_l_5 (fun c2 => ?_) (fun c2 => ?_)
      · refine th_iload_n C dc_H_aliveCount_30 rfl rfl ?_
        exact th_iret C hQ dc_H_aliveCount_31 (by decide) (by decide) ⟨_, rfl, rfl, trivial⟩
      · refine th_aload_n C dc_H_aliveCount_9 rfl rfl ?_
        refine tq_getR C dc_H_aliveCount_10 cl_0 fd_H_11 rfl (show 0 < 1 from by omega) rfl ?_
        refine th_iload_n C dc_H_aliveCount_13 rfl rfl ?_
        obtain ⟨n3, m3⟩ := th_nat (a := k.toInt) (by omega)
        refine tq_aaldN C dc_H_aliveCount_14 rfl (fun _ => rfl) (show 0 < 1 from by omega) rfl m3 (show n3 < 5 from by omega) (fun _ => rfl) ?_
        refine tq_callVp C (c_S_isAlive l hl I n3 (by omega)) ok_H_79 cl_6 (show n3 < 5 from by omega) rfl (Nat.le_of_ble_eq_true rfl) dc_H_aliveCount_15 rfl (fun x4 p4 => ?_)
        refine tq_if_eq (tgt := 24) C dc_H_aliveCount_18 (by decide) rfl (fun c5 => ?_) (fun c5 => ?_)
        · refine tq_iinc (lv' := fun rr => [(0, .inr (some (0, 0))), (1, .inl a), (2, .inl rr)]) C dc_H_aliveCount_24 rfl (by decide) th_c_1 rfl th_l_1 (fun rr => rfl) (fun x6 e6 a6 => ?_)
          refine th_goto (tgt := 4) C dc_H_aliveCount_27 (by decide) ?_
          exact ih a x6 (by omega) (by omega)
        · refine tq_iinc (lv' := fun rr => [(0, .inr (some (0, 0))), (1, .inl rr), (2, .inl k)]) C dc_H_aliveCount_21 rfl (by decide) th_c_1 rfl th_l_1 (fun rr => rfl) (fun x7 e7 a7 => ?_)
          refine tq_iinc (lv' := fun rr => [(0, .inr (some (0, 0))), (1, .inl x7), (2, .inl rr)]) C dc_H_aliveCount_24 rfl (by decide) th_c_1 rfl th_l_1 (fun rr => rfl) (fun x8 e8 a8 => ?_)
          refine th_goto (tgt := 4) C dc_H_aliveCount_27 (by decide) ?_
          exact ih x7 x8 (by omega) (by omega)
  exact L4 _ ((0 : Int32)) ((0 : Int32)) (by have := th_l_0; omega) (Nat.lt_succ_self _)

set_option maxRecDepth 100000 in
set_option maxHeartbeats 4000000 in
theorem c_H_readyCount (l : Launch) (hl : l.stackTraces = false) {K sl : Int} {Z : th_I} (I : th_I) (hI : th_Inv K sl Z I) : th_F l yn_H_readyCount cb_H_readyCount 3 (some .int) { frames := 0, cells := 0, slots := 0, locals := 0 } [.inr (some (0, 0))] (th_m I) (th_rp I (fun x => True)) := by
  refine th_of hl (by decide +kernel) (Nat.le_of_ble_eq_true rfl) (fun z C hQ hN => ?_)
  show th_G l z 3 0 [(0, .inr (some (0, 0)))] [] (th_m I) 0 0
  have hb := hI.2.2.1
  refine th_iconst (v := 0) C dc_H_readyCount_0 th_c_0 ?_
  refine th_istore_n (lv' := [(0, .inr (some (0, 0))), (1, .inl ((0 : Int32)))]) C dc_H_readyCount_1 rfl (by decide) rfl ?_
  refine th_iconst (v := 0) C dc_H_readyCount_2 th_c_0 ?_
  refine th_istore_n (lv' := [(0, .inr (some (0, 0))), (1, .inl ((0 : Int32))), (2, .inl ((0 : Int32)))]) C dc_H_readyCount_3 rfl (by decide) rfl ?_
  have L4 : ∀ (N : Nat) (a : Int32) (k : Int32), (0 ≤ k.toInt ∧ k.toInt ≤ 5) → (5 - k.toInt).toNat < N → th_G l z 3 4 [(0, .inr (some (0, 0))), (1, .inl a), (2, .inl k)] [] (th_m I) 0 0 := by
    intro N
    induction N with
    | zero => intro a k h1 hm; exact absurd hm (Nat.not_lt_zero _)
    | succ N ih =>
      intro a k h1 hm
      refine th_iload_n C dc_H_readyCount_4 rfl rfl ?_
      refine th_iconst (v := 5) C dc_H_readyCount_5 th_c_5 ?_
      refine tq_icmp_ge (tgt := 31) C dc_H_readyCount_6 (by decide) rfl th_l_5 (fun c2 => ?_) (fun c2 => ?_)
      · refine th_iload_n C dc_H_readyCount_31 rfl rfl ?_
        exact th_iret C hQ dc_H_readyCount_32 (by decide) (by decide) ⟨_, rfl, rfl, trivial⟩
      · refine th_aload_n C dc_H_readyCount_9 rfl rfl ?_
        refine tq_getR C dc_H_readyCount_10 cl_0 fd_H_11 rfl (show 0 < 1 from by omega) rfl ?_
        refine th_iload_n C dc_H_readyCount_13 rfl rfl ?_
        obtain ⟨n3, m3⟩ := th_nat (a := k.toInt) (by omega)
        refine tq_aaldN C dc_H_readyCount_14 rfl (fun _ => rfl) (show 0 < 1 from by omega) rfl m3 (show n3 < 5 from by omega) (fun _ => rfl) ?_
        refine tq_getI C dc_H_readyCount_15 cl_6 fd_H_106 rfl (show n3 < 5 from by omega) (fun x4 e4 => ?_)
        have g4 : x4.toInt = (I 6 n3 5).toInt := by rw [e4]
        refine th_iconst (v := 1) C dc_H_readyCount_18 th_c_1 ?_
        refine tq_icmp_ne (tgt := 25) C dc_H_readyCount_19 (by decide) rfl th_l_1 (fun c5 => ?_) (fun c5 => ?_)
        · refine tq_iinc (lv' := fun rr => [(0, .inr (some (0, 0))), (1, .inl a), (2, .inl rr)]) C dc_H_readyCount_25 rfl (by decide) th_c_1 rfl th_l_1 (fun rr => rfl) (fun x6 e6 a6 => ?_)
          refine th_goto (tgt := 4) C dc_H_readyCount_28 (by decide) ?_
          exact ih a x6 (by omega) (by omega)
        · refine tq_iinc (lv' := fun rr => [(0, .inr (some (0, 0))), (1, .inl rr), (2, .inl k)]) C dc_H_readyCount_22 rfl (by decide) th_c_1 rfl th_l_1 (fun rr => rfl) (fun x7 e7 a7 => ?_)
          refine tq_iinc (lv' := fun rr => [(0, .inr (some (0, 0))), (1, .inl x7), (2, .inl rr)]) C dc_H_readyCount_25 rfl (by decide) th_c_1 rfl th_l_1 (fun rr => rfl) (fun x8 e8 a8 => ?_)
          refine th_goto (tgt := 4) C dc_H_readyCount_28 (by decide) ?_
          exact ih x7 x8 (by omega) (by omega)
  exact L4 _ ((0 : Int32)) ((0 : Int32)) (by have := th_l_0; omega) (Nat.lt_succ_self _)

set_option maxRecDepth 100000 in
set_option maxHeartbeats 4000000 in
theorem c_H_nextReady (l : Launch) (hl : l.stackTraces = false) {K sl : Int} {Z : th_I} (I : th_I) (hI : th_Inv K sl Z I) : th_F l yn_H_nextReady cb_H_nextReady 3 (some .int) { frames := 0, cells := 0, slots := 0, locals := 0 } [.inr (some (0, 0))] (th_m I) (th_rp I (fun x => -1 ≤ x.toInt ∧ x.toInt ≤ 4)) := by
  refine th_of hl (by decide +kernel) (Nat.le_of_ble_eq_true rfl) (fun z C hQ hN => ?_)
  show th_G l z 3 0 [(0, .inr (some (0, 0)))] [] (th_m I) 0 0
  have hb := hI.2.2.1
  refine th_iconst (v := 1) C dc_H_nextReady_0 th_c_1 ?_
  refine th_istore_n (lv' := [(0, .inr (some (0, 0))), (1, .inl ((1 : Int32)))]) C dc_H_nextReady_1 rfl (by decide) rfl ?_
  have L2 : ∀ (N : Nat) (k : Int32), (1 ≤ k.toInt ∧ k.toInt ≤ 6) → (6 - k.toInt).toNat < N → th_G l z 3 2 [(0, .inr (some (0, 0))), (1, .inl k)] [] (th_m I) 0 0 := by
    intro N
    induction N with
    | zero => intro k h1 hm; exact absurd hm (Nat.not_lt_zero _)
    | succ N ih =>
      intro k h1 hm
      refine th_iload_n C dc_H_nextReady_2 rfl rfl ?_
      refine th_iconst (v := 5) C dc_H_nextReady_3 th_c_5 ?_
      refine tq_icmp_gt (tgt := 37) C dc_H_nextReady_4 (by decide) rfl th_l_5 (fun c2 => ?_) (fun c2 => ?_)
      · refine th_iconst (v := -1) C dc_H_nextReady_37 th_c_m1 ?_
        exact th_iret C hQ dc_H_nextReady_38 (by decide) (by decide) ⟨_, rfl, rfl, (by have := th_l_m1; first | omega | (dsimp only; omega))⟩
      · refine th_aload_n C dc_H_nextReady_7 rfl rfl ?_
        refine tq_getI C dc_H_nextReady_8 cl_0 fd_H_43 rfl (show 0 < 1 from by omega) (fun x3 e3 => ?_)
        have g3 : x3.toInt = (I 0 0 7).toInt := by rw [e3]
        have r3 : -1 ≤ x3.toInt ∧ x3.toInt ≤ 4 := by rw [e3]; exact hI.1 0 0 7
        refine th_iload_n C dc_H_nextReady_11 rfl rfl ?_
        refine tq_iadd C dc_H_nextReady_12 rfl rfl (fun x4 e4 a4 => ?_)
        refine th_iconst (v := 5) C dc_H_nextReady_13 th_c_5 ?_
        refine th_irem C dc_H_nextReady_14 (by decide) ?_
        obtain ⟨x5, e5⟩ : ∃ r : Int32, r = x4 - x4 / (5 : Int32) * (5 : Int32) := ⟨_, rfl⟩
        rw [← e5]
        have a5 := th_rem5 (x := x4) (by omega) (by omega)
        rw [← e5] at a5
        refine th_istore_n (lv' := [(0, .inr (some (0, 0))), (1, .inl k), (2, .inl x5)]) C dc_H_nextReady_15 rfl (by decide) rfl ?_
        refine th_aload_n C dc_H_nextReady_16 rfl rfl ?_
        refine tq_getR C dc_H_nextReady_17 cl_0 fd_H_11 rfl (show 0 < 1 from by omega) rfl ?_
        refine th_iload_n C dc_H_nextReady_20 rfl rfl ?_
        obtain ⟨n6, m6⟩ := th_nat (a := x5.toInt) (by omega)
        refine tq_aaldN C dc_H_nextReady_21 rfl (fun _ => rfl) (show 0 < 1 from by omega) rfl m6 (show n6 < 5 from by omega) (fun _ => rfl) ?_
        refine tq_getI C dc_H_nextReady_22 cl_6 fd_H_106 rfl (show n6 < 5 from by omega) (fun x7 e7 => ?_)
        have g7 : x7.toInt = (I 6 n6 5).toInt := by rw [e7]
        refine th_iconst (v := 1) C dc_H_nextReady_25 th_c_1 ?_
        refine tq_icmp_ne (tgt := 31) C dc_H_nextReady_26 (by decide) rfl th_l_1 (fun c8 => ?_) (fun c8 => ?_)
        · refine tq_iinc (lv' := fun rr => [(0, .inr (some (0, 0))), (1, .inl rr), (2, .inl x5)]) C dc_H_nextReady_31 rfl (by decide) th_c_1 rfl th_l_1 (fun rr => rfl) (fun x9 e9 a9 => ?_)
          refine th_goto (tgt := 2) C dc_H_nextReady_34 (by decide) ?_
          refine th_sub C (lv' := [(0, .inr (some (0, 0))), (1, .inl x9)]) (fun q hq => by simp at hq ⊢; rcases hq with rfl | rfl <;> simp) ?_
          exact ih x9 (by omega) (by omega)
        · refine th_iload_n C dc_H_nextReady_29 rfl rfl ?_
          exact th_iret C hQ dc_H_nextReady_30 (by decide) (by decide) ⟨_, rfl, rfl, (by first | omega | (dsimp only; omega))⟩
  exact L2 _ ((1 : Int32)) (by have := th_l_1; omega) (Nat.lt_succ_self _)

set_option maxRecDepth 100000 in
set_option maxHeartbeats 4000000 in
theorem c_H_countInstruction (l : Launch) (hl : l.stackTraces = false) {K sl : Int} {Z : th_I} (I : th_I) (i : Nat) (hI : th_Inv K sl Z I) (hi : i < 5) (hp : (I 6 i 6).toInt < 24) : th_F l yn_H_countInstruction cb_H_countInstruction 2 none { frames := 0, cells := 0, slots := 0, locals := 0 } [.inr (some (0, 0)), .inr (some (6, i))] (th_m I) (th_rv (fun J => th_Inv K sl Z J ∧ (True))) := by
  refine th_of hl (by decide +kernel) (Nat.le_of_ble_eq_true rfl) (fun z C hQ hN => ?_)
  show th_G l z 2 0 [(0, .inr (some (0, 0))), (1, .inr (some (6, i)))] [] (th_m I) 0 0
  have hb := hI.2.2.1
  refine th_aload_n C dc_H_countInstruction_0 rfl rfl ?_
  refine th_dup C dc_H_countInstruction_1 ?_
  refine tq_getI C dc_H_countInstruction_2 cl_6 fd_H_109 rfl (show i < 5 from by omega) (fun x1 e1 => ?_)
  have g1 : x1.toInt = (I 6 i 6).toInt := by rw [e1]
  have r1 : 0 ≤ x1.toInt ∧ x1.toInt ≤ 24 := by rw [e1]; exact hI.1 6 i 6
  refine th_iconst (v := 1) C dc_H_countInstruction_5 th_c_1 ?_
  refine tq_iadd C dc_H_countInstruction_6 rfl th_l_1 (fun x2 e2 a2 => ?_)
  refine tq_putI C dc_H_countInstruction_7 cl_6 fd_H_109 rfl (show i < 5 from by omega) rfl rfl ?_
  refine th_gen (P := fun J => th_Inv K sl Z J ∧ J = th_u I 6 i 6 x2) ⟨th_put hI (by decide) (show 0 ≤ x2.toInt ∧ x2.toInt ≤ 24 from by omega), rfl⟩ (fun I3 hI3 => ?_)
  obtain ⟨hI3, u3⟩ := hI3
  have e3 : x2 = I3 6 i 6 := by rw [u3, th_u_eq]
  have g3 : x2.toInt = (I3 6 i 6).toInt := by rw [← e3]
  refine th_aload_n C dc_H_countInstruction_10 rfl rfl ?_
  refine th_dup C dc_H_countInstruction_11 ?_
  refine tq_getI C dc_H_countInstruction_12 cl_6 fd_H_132 rfl (show i < 5 from by omega) (fun x4 e4 => ?_)
  have g4 : x4.toInt = (I3 6 i 9).toInt := by rw [e4]
  refine th_iconst (v := 1) C dc_H_countInstruction_15 th_c_1 ?_
  refine tq_iadd C dc_H_countInstruction_16 rfl th_l_1 (fun x5 e5 a5 => ?_)
  refine tq_putI C dc_H_countInstruction_17 cl_6 fd_H_132 rfl (show i < 5 from by omega) rfl rfl ?_
  refine th_gen (P := fun J => th_Inv K sl Z J ∧ J = th_u I3 6 i 9 x5) ⟨th_put hI3 (by decide) trivial, rfl⟩ (fun I6 hI6 => ?_)
  obtain ⟨hI6, u6⟩ := hI6
  have e7 : x2 = I6 6 i 6 := by rw [u6, th_u_slot (by decide)]; exact e3
  have g7 : x2.toInt = (I6 6 i 6).toInt := by rw [← e7]
  have e6 : x5 = I6 6 i 9 := by rw [u6, th_u_eq]
  have g6 : x5.toInt = (I6 6 i 9).toInt := by rw [← e6]
  refine th_aload_n C dc_H_countInstruction_20 rfl rfl ?_
  refine th_dup C dc_H_countInstruction_21 ?_
  refine tq_getI C dc_H_countInstruction_22 cl_0 fd_H_89 rfl (show 0 < 1 from by omega) (fun x8 e8 => ?_)
  have g8 : x8.toInt = (I6 0 0 9).toInt := by rw [e8]
  refine th_iconst (v := 1) C dc_H_countInstruction_25 th_c_1 ?_
  refine tq_iadd C dc_H_countInstruction_26 rfl th_l_1 (fun x9 e9 a9 => ?_)
  refine tq_putI C dc_H_countInstruction_27 cl_0 fd_H_89 rfl (show 0 < 1 from by omega) rfl rfl ?_
  refine th_gen (P := fun J => th_Inv K sl Z J ∧ J = th_u I6 0 0 9 x9) ⟨th_put hI6 (by decide) trivial, rfl⟩ (fun I10 hI10 => ?_)
  obtain ⟨hI10, u10⟩ := hI10
  have e11 : x2 = I10 6 i 6 := by rw [u10, th_u_tag (by decide)]; exact e7
  have g11 : x2.toInt = (I10 6 i 6).toInt := by rw [← e11]
  have e12 : x5 = I10 6 i 9 := by rw [u10, th_u_tag (by decide)]; exact e6
  have g12 : x5.toInt = (I10 6 i 9).toInt := by rw [← e12]
  have e10 : x9 = I10 0 0 9 := by rw [u10, th_u_eq]
  have g10 : x9.toInt = (I10 0 0 9).toInt := by rw [← e10]
  exact th_vret C hQ dc_H_countInstruction_30 (by decide) (by decide) ⟨_, rfl, rfl, hI10, trivial⟩

set_option maxRecDepth 100000 in
set_option maxHeartbeats 4000000 in
theorem c_H_read (l : Launch) (hl : l.stackTraces = false) {K sl : Int} {Z : th_I} (I : th_I) (i : Nat) (s : Int32) (hI : th_Inv K sl Z I) (hi : i < 5) (hs : 0 ≤ s.toInt ∧ s.toInt ≤ 3) : th_F l yn_H_read cb_H_read 4 (some .int) { frames := 1, cells := 0, slots := 0, locals := 22 } [.inr (some (0, 0)), .inr (some (6, i)), .inl s] (th_m I) (th_rp I (fun x => True)) := by
  refine th_of hl (by decide +kernel) (Nat.le_of_ble_eq_true rfl) (fun z C hQ hN => ?_)
  show th_G l z 4 0 [(0, .inr (some (0, 0))), (1, .inr (some (6, i))), (2, .inl s)] [] (th_m I) 0 0
  have hb := hI.2.2.1
  refine th_aload_n C dc_H_read_0 rfl rfl ?_
  refine tq_getR C dc_H_read_1 cl_6 fd_H_115 rfl (show i < 5 from by omega) rfl ?_
  refine th_iload_n C dc_H_read_4 rfl rfl ?_
  refine tq_callVp C (c_Q_latest l hl I (2 * i) s hI (by omega)) ok_H_251 cl_11 (show 2 * i < 10 from by omega) rfl (Nat.le_of_ble_eq_true rfl) dc_H_read_5 rfl (fun x1 p1 => ?_)
  refine th_istore_n (lv' := [(0, .inr (some (0, 0))), (1, .inr (some (6, i))), (2, .inl s), (3, .inl x1)]) C dc_H_read_8 rfl (by decide) rfl ?_
  refine th_iload_n C dc_H_read_9 rfl rfl ?_
  refine th_iconst (v := -1) C dc_H_read_10 th_c_m1 ?_
  refine tq_icmp_ne (tgt := 23) C dc_H_read_11 (by decide) rfl th_l_m1 (fun c2 => ?_) (fun c2 => ?_)
  · refine th_aload_n C dc_H_read_23 rfl rfl ?_
    refine tq_getR C dc_H_read_24 cl_6 fd_H_115 rfl (show i < 5 from by omega) rfl ?_
    refine tq_getR C dc_H_read_27 cl_11 fd_H_255 rfl (show 2 * i < 10 from by omega) rfl ?_
    refine th_iload_n C dc_H_read_30 rfl rfl ?_
    obtain ⟨n4, m4⟩ := th_nat (a := x1.toInt) (by omega)
    refine tq_ialdN C dc_H_read_31 rfl (fun _ => rfl) (show 2 * i < 10 from by omega) rfl m4 (show n4 < th_lp (2 * i) from by omega) (fun x3 e3 => ?_)
    have g3 : x3.toInt = (I 13 (2 * i) n4).toInt := by rw [e3]
    exact th_iret C hQ dc_H_read_32 (by decide) (by decide) ⟨_, rfl, rfl, trivial⟩
  · refine th_aload_n C dc_H_read_14 rfl rfl ?_
    refine tq_getR C dc_H_read_15 cl_0 fd_H_32 rfl (show 0 < 1 from by omega) rfl ?_
    refine th_iload_n C dc_H_read_18 rfl rfl ?_
    obtain ⟨n6, m6⟩ := th_nat (a := s.toInt) (by omega)
    refine tq_ialdN C dc_H_read_19 rfl (fun _ => rfl) (show 0 < 1 from by omega) rfl m6 (show n6 < 4 from by omega) (fun x5 e5 => ?_)
    have g5 : x5.toInt = (I 4 0 n6).toInt := by rw [e5]
    refine th_goto (tgt := 32) C dc_H_read_20 (by decide) ?_
    exact th_iret C hQ dc_H_read_32 (by decide) (by decide) ⟨_, rfl, rfl, trivial⟩

set_option maxRecDepth 100000 in
set_option maxHeartbeats 4000000 in
theorem c_H_write (l : Launch) (hl : l.stackTraces = false) {K sl : Int} {Z : th_I} (I : th_I) (i : Nat) (s : Int32) (v : Int32) (hI : th_Inv K sl Z I) (hi : i < 5) (hs : 0 ≤ s.toInt ∧ s.toInt ≤ 3) : th_F l yn_H_write cb_H_write 5 none { frames := 1, cells := 0, slots := 0, locals := 22 } [.inr (some (0, 0)), .inr (some (6, i)), .inl s, .inl v] (th_m I) (th_rv (fun J => th_Inv K sl Z J ∧ (True))) := by
  refine th_of hl (by decide +kernel) (Nat.le_of_ble_eq_true rfl) (fun z C hQ hN => ?_)
  show th_G l z 5 0 [(0, .inr (some (0, 0))), (1, .inr (some (6, i))), (2, .inl s), (3, .inl v)] [] (th_m I) 0 0
  have hb := hI.2.2.1
  refine th_aload_n C dc_H_write_0 rfl rfl ?_
  refine tq_getR C dc_H_write_1 cl_6 fd_H_115 rfl (show i < 5 from by omega) rfl ?_
  refine th_iload_n C dc_H_write_4 rfl rfl ?_
  refine tq_callVp C (c_Q_latest l hl I (2 * i) s hI (by omega)) ok_H_251 cl_11 (show 2 * i < 10 from by omega) rfl (Nat.le_of_ble_eq_true rfl) dc_H_write_5 rfl (fun x1 p1 => ?_)
  refine th_istore (lv' := [(0, .inr (some (0, 0))), (1, .inr (some (6, i))), (2, .inl s), (3, .inl v), (4, .inl x1)]) C dc_H_write_8 (by decide) rfl ?_
  refine th_iload C dc_H_write_10 rfl ?_
  refine th_iconst (v := -1) C dc_H_write_12 th_c_m1 ?_
  refine tq_icmp_ne (tgt := 26) C dc_H_write_13 (by decide) rfl th_l_m1 (fun c2 => ?_) (fun c2 => ?_)
  · refine th_aload_n C dc_H_write_26 rfl rfl ?_
    refine tq_getR C dc_H_write_27 cl_6 fd_H_115 rfl (show i < 5 from by omega) rfl ?_
    refine tq_getR C dc_H_write_30 cl_11 fd_H_255 rfl (show 2 * i < 10 from by omega) rfl ?_
    refine th_iload C dc_H_write_33 rfl ?_
    refine th_iload_n C dc_H_write_35 rfl rfl ?_
    obtain ⟨n3, m3⟩ := th_nat (a := x1.toInt) (by omega)
    refine tq_iastN C dc_H_write_36 rfl (fun _ => rfl) (show 2 * i < 10 from by omega) rfl m3 (show n3 < th_lp (2 * i) from by omega) ?_
    refine th_gen (P := fun J => th_Inv K sl Z J ∧ J = th_u I 13 (2 * i) n3 v) ⟨th_put hI (by decide) trivial, rfl⟩ (fun I4 hI4 => ?_)
    obtain ⟨hI4, u4⟩ := hI4
    have e4 : v = I4 13 (2 * i) n3 := by rw [u4, th_u_eq]
    have g4 : v.toInt = (I4 13 (2 * i) n3).toInt := by rw [← e4]
    exact th_vret C hQ dc_H_write_37 (by decide) (by decide) ⟨_, rfl, rfl, hI4, trivial⟩
  · refine th_aload_n C dc_H_write_16 rfl rfl ?_
    refine tq_getR C dc_H_write_17 cl_0 fd_H_32 rfl (show 0 < 1 from by omega) rfl ?_
    refine th_iload_n C dc_H_write_20 rfl rfl ?_
    refine th_iload_n C dc_H_write_21 rfl rfl ?_
    obtain ⟨n5, m5⟩ := th_nat (a := s.toInt) (by omega)
    refine tq_iastN C dc_H_write_22 rfl (fun _ => rfl) (show 0 < 1 from by omega) rfl m5 (show n5 < 4 from by omega) ?_
    refine th_gen (P := fun J => th_Inv K sl Z J ∧ J = th_u I 4 0 n5 v) ⟨th_put hI (by decide) trivial, rfl⟩ (fun I6 hI6 => ?_)
    obtain ⟨hI6, u6⟩ := hI6
    have e6 : v = I6 4 0 n5 := by rw [u6, th_u_eq]
    have g6 : v.toInt = (I6 4 0 n5).toInt := by rw [← e6]
    refine th_goto (tgt := 37) C dc_H_write_23 (by decide) ?_
    exact th_vret C hQ dc_H_write_37 (by decide) (by decide) ⟨_, rfl, rfl, hI6, trivial⟩

set_option maxRecDepth 100000 in
set_option maxHeartbeats 4000000 in
theorem c_H_bind (l : Launch) (hl : l.stackTraces = false) {K sl : Int} {Z : th_I} (I : th_I) (i : Nat) (s : Int32) (v : Int32) (hI : th_Inv K sl Z I) (hi : i < 5) (hs : 0 ≤ s.toInt ∧ s.toInt ≤ 3) : th_F l yn_H_bind cb_H_bind 3 (some .int) { frames := 2, cells := 0, slots := 0, locals := 42 } [.inr (some (6, i)), .inl s, .inl v] (th_m I) (th_ri (fun x J => th_Inv K sl Z J ∧ (0 ≤ x.toInt ∧ x.toInt ≤ 7))) := by
  refine th_of hl (by decide +kernel) (Nat.le_of_ble_eq_true rfl) (fun z C hQ hN => ?_)
  show th_G l z 3 0 [(0, .inr (some (6, i))), (1, .inl s), (2, .inl v)] [] (th_m I) 0 0
  have hb := hI.2.2.1
  refine th_aload_n C dc_H_bind_0 rfl rfl ?_
  refine tq_getR C dc_H_bind_1 cl_6 fd_H_115 rfl (show i < 5 from by omega) rfl ?_
  refine tq_callVp C (c_Q_isFull l hl I (2 * i) hI (by omega)) ok_H_258 cl_11 (show 2 * i < 10 from by omega) rfl (Nat.le_of_ble_eq_true rfl) dc_H_bind_4 rfl (fun x1 p1 => ?_)
  refine tq_if_eq (tgt := 12) C dc_H_bind_7 (by decide) rfl (fun c2 => ?_) (fun c2 => ?_)
  · refine th_aload_n C dc_H_bind_12 rfl rfl ?_
    refine tq_getR C dc_H_bind_13 cl_6 fd_H_115 rfl (show i < 5 from by omega) rfl ?_
    refine th_iload_n C dc_H_bind_16 rfl rfl ?_
    refine th_iload_n C dc_H_bind_17 rfl rfl ?_
    refine tq_callVv C (c_Q_append l hl I (2 * i) s v hI (by omega) (by omega)) ok_H_261 cl_11 (show 2 * i < 10 from by omega) rfl (Nat.le_of_ble_eq_true rfl) dc_H_bind_18 rfl (fun I3 p3 => ?_)
    obtain ⟨hI3, p3⟩ := p3
    refine th_iconst (v := 0) C dc_H_bind_21 th_c_0 ?_
    exact th_iret C hQ dc_H_bind_22 (by decide) (by decide) ⟨_, _, rfl, rfl, hI3, (by have := th_l_0; first | omega | (dsimp only; omega))⟩
  · refine th_iconst (v := 1) C dc_H_bind_10 th_c_1 ?_
    exact th_iret C hQ dc_H_bind_11 (by decide) (by decide) ⟨_, _, rfl, rfl, hI, (by have := th_l_1; first | omega | (dsimp only; omega))⟩

set_option maxRecDepth 100000 in
set_option maxHeartbeats 4000000 in
theorem c_H_unbind (l : Launch) (hl : l.stackTraces = false) {K sl : Int} {Z : th_I} (I : th_I) (i : Nat) (s : Int32) (hI : th_Inv K sl Z I) (hi : i < 5) : th_F l yn_H_unbind cb_H_unbind 3 (some .int) { frames := 1, cells := 0, slots := 0, locals := 22 } [.inr (some (6, i)), .inl s] (th_m I) (th_ri (fun x J => th_Inv K sl Z J ∧ (0 ≤ x.toInt ∧ x.toInt ≤ 7))) := by
  refine th_of hl (by decide +kernel) (Nat.le_of_ble_eq_true rfl) (fun z C hQ hN => ?_)
  show th_G l z 3 0 [(0, .inr (some (6, i))), (1, .inl s)] [] (th_m I) 0 0
  have hb := hI.2.2.1
  refine th_aload_n C dc_H_unbind_0 rfl rfl ?_
  refine tq_getR C dc_H_unbind_1 cl_6 fd_H_115 rfl (show i < 5 from by omega) rfl ?_
  refine th_iload_n C dc_H_unbind_4 rfl rfl ?_
  refine tq_callVp C (c_Q_latest l hl I (2 * i) s hI (by omega)) ok_H_251 cl_11 (show 2 * i < 10 from by omega) rfl (Nat.le_of_ble_eq_true rfl) dc_H_unbind_5 rfl (fun x1 p1 => ?_)
  refine th_istore_n (lv' := [(0, .inr (some (6, i))), (1, .inl s), (2, .inl x1)]) C dc_H_unbind_8 rfl (by decide) rfl ?_
  refine th_iload_n C dc_H_unbind_9 rfl rfl ?_
  refine th_iconst (v := -1) C dc_H_unbind_10 th_c_m1 ?_
  refine tq_icmp_ne (tgt := 16) C dc_H_unbind_11 (by decide) rfl th_l_m1 (fun c2 => ?_) (fun c2 => ?_)
  · refine th_aload_n C dc_H_unbind_16 rfl rfl ?_
    refine tq_getR C dc_H_unbind_17 cl_6 fd_H_115 rfl (show i < 5 from by omega) rfl ?_
    refine th_iload_n C dc_H_unbind_20 rfl rfl ?_
    refine tq_callVv C (c_Q_takeOut l hl I (2 * i) x1 hI (by omega) (by omega)) ok_H_263 cl_11 (show 2 * i < 10 from by omega) rfl (Nat.le_of_ble_eq_true rfl) dc_H_unbind_21 rfl (fun I3 p3 => ?_)
    obtain ⟨hI3, p3⟩ := p3
    refine th_iconst (v := 0) C dc_H_unbind_24 th_c_0 ?_
    exact th_iret C hQ dc_H_unbind_25 (by decide) (by decide) ⟨_, _, rfl, rfl, hI3, (by have := th_l_0; first | omega | (dsimp only; omega))⟩
  · refine th_iconst (v := 2) C dc_H_unbind_14 th_c_2 ?_
    exact th_iret C hQ dc_H_unbind_15 (by decide) (by decide) ⟨_, _, rfl, rfl, hI, (by have := th_l_2; first | omega | (dsimp only; omega))⟩

set_option maxRecDepth 100000 in
set_option maxHeartbeats 4000000 in
theorem c_H_hook (l : Launch) (hl : l.stackTraces = false) {K sl : Int} {Z : th_I} (I : th_I) (i : Nat) (s : Int32) (v : Int32) (hI : th_Inv K sl Z I) (hi : i < 5) (hs : 0 ≤ s.toInt ∧ s.toInt ≤ 3) : th_F l yn_H_hook cb_H_hook 3 (some .int) { frames := 2, cells := 0, slots := 0, locals := 42 } [.inr (some (6, i)), .inl s, .inl v] (th_m I) (th_ri (fun x J => th_Inv K sl Z J ∧ (0 ≤ x.toInt ∧ x.toInt ≤ 7))) := by
  refine th_of hl (by decide +kernel) (Nat.le_of_ble_eq_true rfl) (fun z C hQ hN => ?_)
  show th_G l z 3 0 [(0, .inr (some (6, i))), (1, .inl s), (2, .inl v)] [] (th_m I) 0 0
  have hb := hI.2.2.1
  refine th_aload_n C dc_H_hook_0 rfl rfl ?_
  refine tq_getR C dc_H_hook_1 cl_6 fd_H_122 rfl (show i < 5 from by omega) rfl ?_
  refine tq_callVp C (c_Q_isFull l hl I (2 * i + 1) hI (by omega)) ok_H_258 cl_11 (show 2 * i + 1 < 10 from by omega) rfl (Nat.le_of_ble_eq_true rfl) dc_H_hook_4 rfl (fun x1 p1 => ?_)
  refine tq_if_eq (tgt := 13) C dc_H_hook_7 (by decide) rfl (fun c2 => ?_) (fun c2 => ?_)
  · refine th_aload_n C dc_H_hook_13 rfl rfl ?_
    refine tq_getR C dc_H_hook_14 cl_6 fd_H_122 rfl (show i < 5 from by omega) rfl ?_
    refine th_iload_n C dc_H_hook_17 rfl rfl ?_
    refine th_iload_n C dc_H_hook_18 rfl rfl ?_
    refine tq_callVv C (c_Q_append l hl I (2 * i + 1) s v hI (by omega) (by omega)) ok_H_261 cl_11 (show 2 * i + 1 < 10 from by omega) rfl (Nat.le_of_ble_eq_true rfl) dc_H_hook_19 rfl (fun I3 p3 => ?_)
    obtain ⟨hI3, p3⟩ := p3
    refine th_iconst (v := 0) C dc_H_hook_22 th_c_0 ?_
    exact th_iret C hQ dc_H_hook_23 (by decide) (by decide) ⟨_, _, rfl, rfl, hI3, (by have := th_l_0; first | omega | (dsimp only; omega))⟩
  · refine th_bipush (v := 6) C dc_H_hook_10 th_b_6 ?_
    exact th_iret C hQ dc_H_hook_12 (by decide) (by decide) ⟨_, _, rfl, rfl, hI, (by have := th_l_6; first | omega | (dsimp only; omega))⟩

set_option maxRecDepth 100000 in
set_option maxHeartbeats 4000000 in
theorem c_H_jumpIfZero (l : Launch) (hl : l.stackTraces = false) {K sl : Int} {Z : th_I} (I : th_I) (i : Nat) (s : Int32) (p : Int32) (hI : th_Inv K sl Z I) (hi : i < 5) (hs : 0 ≤ s.toInt ∧ s.toInt ≤ 3) (hp : 0 ≤ p.toInt ∧ p.toInt ≤ 24) : th_F l yn_H_jumpIfZero cb_H_jumpIfZero 4 none { frames := 2, cells := 0, slots := 0, locals := 45 } [.inr (some (0, 0)), .inr (some (6, i)), .inl s, .inl p] (th_m I) (th_rv (fun J => th_Inv K sl Z J ∧ (True))) := by
  refine th_of hl (by decide +kernel) (Nat.le_of_ble_eq_true rfl) (fun z C hQ hN => ?_)
  show th_G l z 4 0 [(0, .inr (some (0, 0))), (1, .inr (some (6, i))), (2, .inl s), (3, .inl p)] [] (th_m I) 0 0
  have hb := hI.2.2.1
  refine th_aload_n C dc_H_jumpIfZero_0 rfl rfl ?_
  refine th_aload_n C dc_H_jumpIfZero_1 rfl rfl ?_
  refine th_iload_n C dc_H_jumpIfZero_2 rfl rfl ?_
  refine tq_callVp C (c_H_read l hl I i s hI (by omega) (by omega)) ok_H_102 cl_0 (show 0 < 1 from by omega) rfl (Nat.le_of_ble_eq_true rfl) dc_H_jumpIfZero_3 rfl (fun x1 p1 => ?_)
  refine tq_if_ne (tgt := 14) C dc_H_jumpIfZero_6 (by decide) rfl (fun c2 => ?_) (fun c2 => ?_)
  · exact th_vret C hQ dc_H_jumpIfZero_14 (by decide) (by decide) ⟨_, rfl, rfl, hI, trivial⟩
  · refine th_aload_n C dc_H_jumpIfZero_9 rfl rfl ?_
    refine th_iload_n C dc_H_jumpIfZero_10 rfl rfl ?_
    refine tq_putI C dc_H_jumpIfZero_11 cl_6 fd_H_109 rfl (show i < 5 from by omega) rfl rfl ?_
    refine th_gen (P := fun J => th_Inv K sl Z J ∧ J = th_u I 6 i 6 p) ⟨th_put hI (by decide) (show 0 ≤ p.toInt ∧ p.toInt ≤ 24 from by omega), rfl⟩ (fun I3 hI3 => ?_)
    obtain ⟨hI3, u3⟩ := hI3
    have e3 : p = I3 6 i 6 := by rw [u3, th_u_eq]
    have g3 : p.toInt = (I3 6 i 6).toInt := by rw [← e3]
    exact th_vret C hQ dc_H_jumpIfZero_14 (by decide) (by decide) ⟨_, rfl, rfl, hI3, trivial⟩

set_option maxRecDepth 100000 in
set_option maxHeartbeats 4000000 in
theorem c_H_keepSaid (l : Launch) (hl : l.stackTraces = false) {K sl : Int} {Z : th_I} (I : th_I) (v : Int32) (hI : th_Inv K sl Z I) (hK : K < 1000000) : th_F l yn_H_keepSaid cb_H_keepSaid 2 none { frames := 0, cells := 0, slots := 0, locals := 0 } [.inr (some (0, 0)), .inl v] (th_m I) (th_rv (fun J => th_Inv (K + 1) sl Z J ∧ (True))) := by
  refine th_of hl (by decide +kernel) (Nat.le_of_ble_eq_true rfl) (fun z C hQ hN => ?_)
  show th_G l z 2 0 [(0, .inr (some (0, 0))), (1, .inl v)] [] (th_m I) 0 0
  have hb := hI.2.2.1
  refine th_aload_n C dc_H_keepSaid_0 rfl rfl ?_
  refine tq_getI C dc_H_keepSaid_1 cl_0 fd_H_155 rfl (show 0 < 1 from by omega) (fun x1 e1 => ?_)
  have g1 : x1.toInt = (I 0 0 5).toInt := by rw [e1]
  have r1 : 0 ≤ x1.toInt ∧ x1.toInt ≤ K := by rw [e1]; exact hI.1 0 0 5
  refine th_bipush (v := 40) C dc_H_keepSaid_4 th_b_40 ?_
  refine tq_icmp_ge (tgt := 19) C dc_H_keepSaid_6 (by decide) rfl th_l_40 (fun c2 => ?_) (fun c2 => ?_)
  · refine th_aload_n C dc_H_keepSaid_19 rfl rfl ?_
    refine th_dup C dc_H_keepSaid_20 ?_
    refine tq_getIe C dc_H_keepSaid_21 cl_0 fd_H_155 rfl (show 0 < 1 from by omega) e1 ?_
    refine th_iconst (v := 1) C dc_H_keepSaid_24 th_c_1 ?_
    refine tq_iadd C dc_H_keepSaid_25 rfl th_l_1 (fun x3 e3 a3 => ?_)
    refine tq_putI C dc_H_keepSaid_26 cl_0 fd_H_155 rfl (show 0 < 1 from by omega) rfl rfl ?_
    refine th_gen (P := fun J => J = th_u I 0 0 5 x3) rfl (fun I4 u4 => ?_)
    have e4 : x3 = I4 0 0 5 := by rw [u4, th_u_eq]
    have g4 : x3.toInt = (I4 0 0 5).toInt := by rw [← e4]
    exact th_vret C hQ dc_H_keepSaid_29 (by decide) (by decide) ⟨_, rfl, rfl, (by rw [u4]; exact th_put (th_mono hI (by omega) (by omega)) (by decide) (show _ ∧ _ from by omega)), trivial⟩
  · refine th_aload_n C dc_H_keepSaid_9 rfl rfl ?_
    refine tq_getR C dc_H_keepSaid_10 cl_0 fd_H_36 rfl (show 0 < 1 from by omega) rfl ?_
    refine th_aload_n C dc_H_keepSaid_13 rfl rfl ?_
    refine tq_getIe C dc_H_keepSaid_14 cl_0 fd_H_155 rfl (show 0 < 1 from by omega) e1 ?_
    refine th_iload_n C dc_H_keepSaid_17 rfl rfl ?_
    obtain ⟨n5, m5⟩ := th_nat (a := x1.toInt) (by omega)
    refine tq_iastN C dc_H_keepSaid_18 rfl (fun _ => rfl) (show 0 < 1 from by omega) rfl m5 (show n5 < 40 from by omega) ?_
    refine th_gen (P := fun J => J = th_u I 5 0 n5 v) rfl (fun I6 u6 => ?_)
    have e7 : x1 = I6 0 0 5 := by rw [u6, th_u_tag (by decide)]; exact e1
    have g7 : x1.toInt = (I6 0 0 5).toInt := by rw [← e7]
    have e6 : v = I6 5 0 n5 := by rw [u6, th_u_eq]
    have g6 : v.toInt = (I6 5 0 n5).toInt := by rw [← e6]
    refine th_aload_n C dc_H_keepSaid_19 rfl rfl ?_
    refine th_dup C dc_H_keepSaid_20 ?_
    refine tq_getIe C dc_H_keepSaid_21 cl_0 fd_H_155 rfl (show 0 < 1 from by omega) e7 ?_
    refine th_iconst (v := 1) C dc_H_keepSaid_24 th_c_1 ?_
    refine tq_iadd C dc_H_keepSaid_25 rfl th_l_1 (fun x8 e8 a8 => ?_)
    refine tq_putI C dc_H_keepSaid_26 cl_0 fd_H_155 rfl (show 0 < 1 from by omega) rfl rfl ?_
    refine th_gen (P := fun J => J = th_u I6 0 0 5 x8) rfl (fun I9 u9 => ?_)
    have e10 : v = I9 5 0 n5 := by rw [u9, th_u_tag (by decide)]; exact e6
    have g10 : v.toInt = (I9 5 0 n5).toInt := by rw [← e10]
    have e9 : x8 = I9 0 0 5 := by rw [u9, th_u_eq]
    have g9 : x8.toInt = (I9 0 0 5).toInt := by rw [← e9]
    exact th_vret C hQ dc_H_keepSaid_29 (by decide) (by decide) ⟨_, rfl, rfl, (by rw [u9, u6]; exact th_put (th_mono (th_put hI (by decide) trivial) (by omega) (by omega)) (by decide) (show _ ∧ _ from by omega)), trivial⟩

set_option maxRecDepth 100000 in
set_option maxHeartbeats 4000000 in
theorem c_H_goFor (l : Launch) (hl : l.stackTraces = false) {K sl : Int} {Z : th_I} (I : th_I) (i : Nat) (m : Int32) (v : Int32) (hI : th_Inv K sl Z I) (hi : i < 5) (hm : 0 ≤ m.toInt ∧ m.toInt ≤ 2) : th_F l yn_H_goFor cb_H_goFor 5 none { frames := 1, cells := 0, slots := 0, locals := 22 } [.inr (some (0, 0)), .inr (some (6, i)), .inl m, .inl v] (th_m I) (th_rv (fun J => th_Inv K sl Z J ∧ (True))) := by
  refine th_of hl (by decide +kernel) (Nat.le_of_ble_eq_true rfl) (fun z C hQ hN => ?_)
  show th_G l z 5 0 [(0, .inr (some (0, 0))), (1, .inr (some (6, i))), (2, .inl m), (3, .inl v)] [] (th_m I) 0 0
  have hb := hI.2.2.1
  refine th_aload_n C dc_H_goFor_0 rfl rfl ?_
  refine tq_getR C dc_H_goFor_1 cl_0 fd_H_20 rfl (show 0 < 1 from by omega) rfl ?_
  refine th_iload_n C dc_H_goFor_4 rfl rfl ?_
  obtain ⟨n1, m1⟩ := th_nat (a := m.toInt) (by omega)
  refine tq_aaldN C dc_H_goFor_5 rfl (fun _ => rfl) (show 0 < 1 from by omega) rfl m1 (show n1 < 3 from by omega) (fun _ => rfl) ?_
  refine th_astore (lv' := [(0, .inr (some (0, 0))), (1, .inr (some (6, i))), (2, .inl m), (3, .inl v), (4, .inr (some (16, n1)))]) C dc_H_goFor_6 (by decide) rfl ?_
  refine th_aload C dc_H_goFor_8 rfl ?_
  refine th_aload_n C dc_H_goFor_10 rfl rfl ?_
  refine tq_getI C dc_H_goFor_11 cl_6 fd_H_176 rfl (show i < 5 from by omega) (fun x2 e2 => ?_)
  have g2 : x2.toInt = (I 6 i 0).toInt := by rw [e2]
  have r2 : x2.toInt = (i : Int) ∨ 5 ≤ i := by rw [e2]; exact hI.1 6 i 0
  refine tq_callVp C (c_M_isOpenTo l hl I n1 x2 (by omega)) ok_H_266 cl_16 (show n1 < 3 from by omega) rfl (Nat.le_of_ble_eq_true rfl) dc_H_goFor_14 rfl (fun x3 p3 => ?_)
  refine tq_if_eq (tgt := 38) C dc_H_goFor_17 (by decide) rfl (fun c4 => ?_) (fun c4 => ?_)
  · refine th_aload_n C dc_H_goFor_38 rfl rfl ?_
    refine th_iload_n C dc_H_goFor_39 rfl rfl ?_
    refine tq_putI C dc_H_goFor_40 cl_6 fd_H_273 rfl (show i < 5 from by omega) rfl rfl ?_
    refine th_gen (P := fun J => th_Inv K sl Z J ∧ J = th_u I 6 i 15 v) ⟨th_put hI (by decide) trivial, rfl⟩ (fun I5 hI5 => ?_)
    obtain ⟨hI5, u5⟩ := hI5
    have e6 : x2 = I5 6 i 0 := by rw [u5, th_u_slot (by decide)]; exact e2
    have g6 : x2.toInt = (I5 6 i 0).toInt := by rw [← e6]
    have e5 : v = I5 6 i 15 := by rw [u5, th_u_eq]
    have g5 : v.toInt = (I5 6 i 15).toInt := by rw [← e5]
    refine th_aload_n C dc_H_goFor_43 rfl rfl ?_
    refine th_iconst (v := 2) C dc_H_goFor_44 th_c_2 ?_
    refine tq_putI C dc_H_goFor_45 cl_6 fd_H_106 rfl (show i < 5 from by omega) rfl rfl ?_
    refine th_gen (P := fun J => th_Inv K sl Z J ∧ J = th_u I5 6 i 5 ((2 : Int32))) ⟨th_put hI5 (by decide) trivial, rfl⟩ (fun I7 hI7 => ?_)
    obtain ⟨hI7, u7⟩ := hI7
    have e8 : x2 = I7 6 i 0 := by rw [u7, th_u_slot (by decide)]; exact e6
    have g8 : x2.toInt = (I7 6 i 0).toInt := by rw [← e8]
    have e9 : v = I7 6 i 15 := by rw [u7, th_u_slot (by decide)]; exact e5
    have g9 : v.toInt = (I7 6 i 15).toInt := by rw [← e9]
    have e7 : (2 : Int32) = I7 6 i 5 := by rw [u7, th_u_eq]
    have g7 : 2 = (I7 6 i 5).toInt := by rw [← e7]; exact th_l_2.symm
    refine th_aload C dc_H_goFor_48 rfl ?_
    refine tq_getR C dc_H_goFor_50 cl_16 fd_H_152 rfl (show n1 < 3 from by omega) rfl ?_
    refine th_aload_n C dc_H_goFor_53 rfl rfl ?_
    refine tq_getIe C dc_H_goFor_54 cl_6 fd_H_176 rfl (show i < 5 from by omega) e8 ?_
    refine tq_callVv C (c_R_append l hl I7 (5 + n1) x2 hI7 (by omega) (by omega)) ok_H_276 cl_14 (show 5 + n1 < 11 from by omega) rfl (Nat.le_of_ble_eq_true rfl) dc_H_goFor_57 rfl (fun I10 p10 => ?_)
    obtain ⟨hI10, p10⟩ := p10
    exact th_vret C hQ dc_H_goFor_60 (by decide) (by decide) ⟨_, rfl, rfl, hI10, trivial⟩
  · refine th_aload C dc_H_goFor_20 rfl ?_
    refine th_aload_n C dc_H_goFor_22 rfl rfl ?_
    refine tq_getIe C dc_H_goFor_23 cl_6 fd_H_176 rfl (show i < 5 from by omega) e2 ?_
    refine th_iload_n C dc_H_goFor_26 rfl rfl ?_
    refine tq_callVv C (c_M_give l hl I n1 x2 v hI (by omega)) ok_H_270 cl_16 (show n1 < 3 from by omega) rfl (Nat.le_of_ble_eq_true rfl) dc_H_goFor_27 rfl (fun I11 p11 => ?_)
    obtain ⟨hI11, p11⟩ := p11
    refine th_aload_n C dc_H_goFor_30 rfl rfl ?_
    refine th_iconst (v := 1) C dc_H_goFor_31 th_c_1 ?_
    refine tq_putI C dc_H_goFor_32 cl_6 fd_H_106 rfl (show i < 5 from by omega) rfl rfl ?_
    refine th_gen (P := fun J => th_Inv K sl Z J ∧ J = th_u I11 6 i 5 ((1 : Int32))) ⟨th_put hI11 (by decide) trivial, rfl⟩ (fun I12 hI12 => ?_)
    obtain ⟨hI12, u12⟩ := hI12
    have e12 : (1 : Int32) = I12 6 i 5 := by rw [u12, th_u_eq]
    have g12 : 1 = (I12 6 i 5).toInt := by rw [← e12]; exact th_l_1.symm
    refine th_goto (tgt := 60) C dc_H_goFor_35 (by decide) ?_
    exact th_vret C hQ dc_H_goFor_60 (by decide) (by decide) ⟨_, rfl, rfl, hI12, trivial⟩

set_option maxRecDepth 100000 in
set_option maxHeartbeats 4000000 in
theorem c_H_passOn (l : Launch) (hl : l.stackTraces = false) {K sl : Int} {Z : th_I} (I : th_I) (m : Nat) (hI : th_Inv K sl Z I) (hm : m < 3) : th_F l yn_H_passOn cb_H_passOn 3 none { frames := 2, cells := 0, slots := 0, locals := 44 } [.inr (some (0, 0)), .inr (some (16, m))] (th_m I) (th_rv (fun J => th_Inv K sl Z J ∧ (True))) := by
  refine th_of hl (by decide +kernel) (Nat.le_of_ble_eq_true rfl) (fun z C hQ hN => ?_)
  show th_G l z 3 0 [(0, .inr (some (0, 0))), (1, .inr (some (16, m)))] [] (th_m I) 0 0
  have hb := hI.2.2.1
  refine th_aload_n C dc_H_passOn_0 rfl rfl ?_
  refine th_iconst (v := -1) C dc_H_passOn_1 th_c_m1 ?_
  refine tq_putI C dc_H_passOn_2 cl_16 fd_H_146 rfl (show m < 3 from by omega) rfl rfl ?_
  refine th_gen (P := fun J => th_Inv K sl Z J ∧ J = th_u I 16 m 1 ((-1 : Int32))) ⟨th_put hI (by decide) trivial, rfl⟩ (fun I1 hI1 => ?_)
  obtain ⟨hI1, u1⟩ := hI1
  have e1 : (-1 : Int32) = I1 16 m 1 := by rw [u1, th_u_eq]
  have g1 : -1 = (I1 16 m 1).toInt := by rw [← e1]; exact th_l_m1.symm
  refine th_aload_n C dc_H_passOn_5 rfl rfl ?_
  refine th_iconst (v := 0) C dc_H_passOn_6 th_c_0 ?_
  refine tq_putI C dc_H_passOn_7 cl_16 fd_H_149 rfl (show m < 3 from by omega) rfl rfl ?_
  refine th_gen (P := fun J => th_Inv K sl Z J ∧ J = th_u I1 16 m 2 ((0 : Int32))) ⟨th_put hI1 (by decide) trivial, rfl⟩ (fun I2 hI2 => ?_)
  obtain ⟨hI2, u2⟩ := hI2
  have e3 : (-1 : Int32) = I2 16 m 1 := by rw [u2, th_u_slot (by decide)]; exact e1
  have g3 : (-1 : Int32).toInt = (I2 16 m 1).toInt := by rw [← e3]
  have e2 : (0 : Int32) = I2 16 m 2 := by rw [u2, th_u_eq]
  have g2 : 0 = (I2 16 m 2).toInt := by rw [← e2]; exact th_l_0.symm
  refine th_aload_n C dc_H_passOn_10 rfl rfl ?_
  refine tq_getR C dc_H_passOn_11 cl_16 fd_H_152 rfl (show m < 3 from by omega) rfl ?_
  refine tq_callVi C (c_R_takeFirst l hl I2 (5 + m) hI2 (by omega)) ok_H_282 cl_14 (show 5 + m < 11 from by omega) rfl (Nat.le_of_ble_eq_true rfl) dc_H_passOn_14 rfl (fun x4 I4 p4 => ?_)
  obtain ⟨hI4, p4⟩ := p4
  refine th_istore_n (lv' := [(0, .inr (some (0, 0))), (1, .inr (some (16, m))), (2, .inl x4)]) C dc_H_passOn_17 rfl (by decide) rfl ?_
  refine th_iload_n C dc_H_passOn_18 rfl rfl ?_
  refine th_iconst (v := -1) C dc_H_passOn_19 th_c_m1 ?_
  refine tq_icmp_eq (tgt := 47) C dc_H_passOn_20 (by decide) rfl th_l_m1 (fun c5 => ?_) (fun c5 => ?_)
  · exact th_vret C hQ dc_H_passOn_47 (by decide) (by decide) ⟨_, rfl, rfl, hI4, trivial⟩
  · refine th_aload_n C dc_H_passOn_23 rfl rfl ?_
    refine th_iload_n C dc_H_passOn_24 rfl rfl ?_
    refine th_aload_n C dc_H_passOn_25 rfl rfl ?_
    refine tq_getR C dc_H_passOn_26 cl_0 fd_H_11 rfl (show 0 < 1 from by omega) rfl ?_
    refine th_iload_n C dc_H_passOn_29 rfl rfl ?_
    obtain ⟨n6, m6⟩ := th_nat (a := x4.toInt) (by omega)
    refine tq_aaldN C dc_H_passOn_30 rfl (fun _ => rfl) (show 0 < 1 from by omega) rfl m6 (show n6 < 5 from by omega) (fun _ => rfl) ?_
    refine tq_getI C dc_H_passOn_31 cl_6 fd_H_273 rfl (show n6 < 5 from by omega) (fun x7 e7 => ?_)
    have g7 : x7.toInt = (I4 6 n6 15).toInt := by rw [e7]
    refine tq_callVv C (c_M_give l hl I4 m x4 x7 hI4 (by omega)) ok_H_270 cl_16 (show m < 3 from by omega) rfl (Nat.le_of_ble_eq_true rfl) dc_H_passOn_34 rfl (fun I8 p8 => ?_)
    obtain ⟨hI8, p8⟩ := p8
    refine th_aload_n C dc_H_passOn_37 rfl rfl ?_
    refine tq_getR C dc_H_passOn_38 cl_0 fd_H_11 rfl (show 0 < 1 from by omega) rfl ?_
    refine th_iload_n C dc_H_passOn_41 rfl rfl ?_
    refine tq_aaldN C dc_H_passOn_42 rfl (fun _ => rfl) (show 0 < 1 from by omega) rfl m6 (show n6 < 5 from by omega) (fun _ => rfl) ?_
    refine th_iconst (v := 1) C dc_H_passOn_43 th_c_1 ?_
    refine tq_putI C dc_H_passOn_44 cl_6 fd_H_106 rfl (show n6 < 5 from by omega) rfl rfl ?_
    refine th_gen (P := fun J => th_Inv K sl Z J ∧ J = th_u I8 6 n6 5 ((1 : Int32))) ⟨th_put hI8 (by decide) trivial, rfl⟩ (fun I9 hI9 => ?_)
    obtain ⟨hI9, u9⟩ := hI9
    have e9 : (1 : Int32) = I9 6 n6 5 := by rw [u9, th_u_eq]
    have g9 : 1 = (I9 6 n6 5).toInt := by rw [← e9]; exact th_l_1.symm
    exact th_vret C hQ dc_H_passOn_47 (by decide) (by decide) ⟨_, rfl, rfl, hI9, trivial⟩

set_option maxRecDepth 100000 in
set_option maxHeartbeats 4000000 in
theorem c_H_unlock (l : Launch) (hl : l.stackTraces = false) {K sl : Int} {Z : th_I} (I : th_I) (i : Nat) (m : Int32) (hI : th_Inv K sl Z I) (hi : i < 5) (hm : 0 ≤ m.toInt ∧ m.toInt ≤ 2) : th_F l yn_H_unlock cb_H_unlock 4 (some .int) { frames := 3, cells := 0, slots := 0, locals := 66 } [.inr (some (0, 0)), .inr (some (6, i)), .inl m] (th_m I) (th_ri (fun x J => th_Inv K sl Z J ∧ (0 ≤ x.toInt ∧ x.toInt ≤ 7))) := by
  refine th_of hl (by decide +kernel) (Nat.le_of_ble_eq_true rfl) (fun z C hQ hN => ?_)
  show th_G l z 4 0 [(0, .inr (some (0, 0))), (1, .inr (some (6, i))), (2, .inl m)] [] (th_m I) 0 0
  have hb := hI.2.2.1
  refine th_aload_n C dc_H_unlock_0 rfl rfl ?_
  refine tq_getR C dc_H_unlock_1 cl_0 fd_H_20 rfl (show 0 < 1 from by omega) rfl ?_
  refine th_iload_n C dc_H_unlock_4 rfl rfl ?_
  obtain ⟨n1, m1⟩ := th_nat (a := m.toInt) (by omega)
  refine tq_aaldN C dc_H_unlock_5 rfl (fun _ => rfl) (show 0 < 1 from by omega) rfl m1 (show n1 < 3 from by omega) (fun _ => rfl) ?_
  refine th_astore_n (lv' := [(0, .inr (some (0, 0))), (1, .inr (some (6, i))), (2, .inl m), (3, .inr (some (16, n1)))]) C dc_H_unlock_6 rfl (by decide) rfl ?_
  refine th_aload_n C dc_H_unlock_7 rfl rfl ?_
  refine tq_getI C dc_H_unlock_8 cl_16 fd_H_146 rfl (show n1 < 3 from by omega) (fun x2 e2 => ?_)
  have g2 : x2.toInt = (I 16 n1 1).toInt := by rw [e2]
  refine th_aload_n C dc_H_unlock_11 rfl rfl ?_
  refine tq_getI C dc_H_unlock_12 cl_6 fd_H_176 rfl (show i < 5 from by omega) (fun x3 e3 => ?_)
  have g3 : x3.toInt = (I 6 i 0).toInt := by rw [e3]
  have r3 : x3.toInt = (i : Int) ∨ 5 ≤ i := by rw [e3]; exact hI.1 6 i 0
  refine tq_icmp_eq (tgt := 20) C dc_H_unlock_15 (by decide) rfl rfl (fun c4 => ?_) (fun c4 => ?_)
  · refine th_aload_n C dc_H_unlock_20 rfl rfl ?_
    refine th_dup C dc_H_unlock_21 ?_
    refine tq_getI C dc_H_unlock_22 cl_16 fd_H_149 rfl (show n1 < 3 from by omega) (fun x5 e5 => ?_)
    have g5 : x5.toInt = (I 16 n1 2).toInt := by rw [e5]
    refine th_iconst (v := 1) C dc_H_unlock_25 th_c_1 ?_
    refine tq_isub C dc_H_unlock_26 rfl th_l_1 (fun x6 e6 a6 => ?_)
    refine tq_putI C dc_H_unlock_27 cl_16 fd_H_149 rfl (show n1 < 3 from by omega) rfl rfl ?_
    refine th_gen (P := fun J => th_Inv K sl Z J ∧ J = th_u I 16 n1 2 x6) ⟨th_put hI (by decide) trivial, rfl⟩ (fun I7 hI7 => ?_)
    obtain ⟨hI7, u7⟩ := hI7
    have e8 : x2 = I7 16 n1 1 := by rw [u7, th_u_slot (by decide)]; exact e2
    have g8 : x2.toInt = (I7 16 n1 1).toInt := by rw [← e8]
    have e9 : x3 = I7 6 i 0 := by rw [u7, th_u_tag (by decide)]; exact e3
    have g9 : x3.toInt = (I7 6 i 0).toInt := by rw [← e9]
    have e7 : x6 = I7 16 n1 2 := by rw [u7, th_u_eq]
    have g7 : x6.toInt = (I7 16 n1 2).toInt := by rw [← e7]
    refine th_aload_n C dc_H_unlock_30 rfl rfl ?_
    refine tq_getIe C dc_H_unlock_31 cl_16 fd_H_149 rfl (show n1 < 3 from by omega) e7 ?_
    refine tq_if_ne (tgt := 42) C dc_H_unlock_34 (by decide) rfl (fun c10 => ?_) (fun c10 => ?_)
    · refine th_iconst (v := 0) C dc_H_unlock_42 th_c_0 ?_
      exact th_iret C hQ dc_H_unlock_43 (by decide) (by decide) ⟨_, _, rfl, rfl, hI7, (by have := th_l_0; first | omega | (dsimp only; omega))⟩
    · refine th_aload_n C dc_H_unlock_37 rfl rfl ?_
      refine th_aload_n C dc_H_unlock_38 rfl rfl ?_
      refine tq_callVv C (c_H_passOn l hl I7 n1 hI7 (by omega)) ok_H_278 cl_0 (show 0 < 1 from by omega) rfl (Nat.le_of_ble_eq_true rfl) dc_H_unlock_39 rfl (fun I11 p11 => ?_)
      obtain ⟨hI11, p11⟩ := p11
      refine th_iconst (v := 0) C dc_H_unlock_42 th_c_0 ?_
      exact th_iret C hQ dc_H_unlock_43 (by decide) (by decide) ⟨_, _, rfl, rfl, hI11, (by have := th_l_0; first | omega | (dsimp only; omega))⟩
  · refine th_iconst (v := 3) C dc_H_unlock_18 th_c_3 ?_
    exact th_iret C hQ dc_H_unlock_19 (by decide) (by decide) ⟨_, _, rfl, rfl, hI, (by have := th_l_3; first | omega | (dsimp only; omega))⟩

set_option maxRecDepth 100000 in
set_option maxHeartbeats 4000000 in
theorem c_H_tryLock (l : Launch) (hl : l.stackTraces = false) {K sl : Int} {Z : th_I} (I : th_I) (i : Nat) (m : Int32) (s : Int32) (hI : th_Inv K sl Z I) (hi : i < 5) (hm : 0 ≤ m.toInt ∧ m.toInt ≤ 2) (hs : 0 ≤ s.toInt ∧ s.toInt ≤ 3) : th_F l yn_H_tryLock cb_H_tryLock 5 none { frames := 2, cells := 0, slots := 0, locals := 46 } [.inr (some (0, 0)), .inr (some (6, i)), .inl m, .inl s] (th_m I) (th_rv (fun J => th_Inv K sl Z J ∧ (True))) := by
  refine th_of hl (by decide +kernel) (Nat.le_of_ble_eq_true rfl) (fun z C hQ hN => ?_)
  show th_G l z 5 0 [(0, .inr (some (0, 0))), (1, .inr (some (6, i))), (2, .inl m), (3, .inl s)] [] (th_m I) 0 0
  have hb := hI.2.2.1
  refine th_aload_n C dc_H_tryLock_0 rfl rfl ?_
  refine tq_getR C dc_H_tryLock_1 cl_0 fd_H_20 rfl (show 0 < 1 from by omega) rfl ?_
  refine th_iload_n C dc_H_tryLock_4 rfl rfl ?_
  obtain ⟨n1, m1⟩ := th_nat (a := m.toInt) (by omega)
  refine tq_aaldN C dc_H_tryLock_5 rfl (fun _ => rfl) (show 0 < 1 from by omega) rfl m1 (show n1 < 3 from by omega) (fun _ => rfl) ?_
  refine th_aload_n C dc_H_tryLock_6 rfl rfl ?_
  refine tq_getI C dc_H_tryLock_7 cl_6 fd_H_176 rfl (show i < 5 from by omega) (fun x2 e2 => ?_)
  have g2 : x2.toInt = (I 6 i 0).toInt := by rw [e2]
  have r2 : x2.toInt = (i : Int) ∨ 5 ≤ i := by rw [e2]; exact hI.1 6 i 0
  refine tq_callVp C (c_M_isOpenTo l hl I n1 x2 (by omega)) ok_H_266 cl_16 (show n1 < 3 from by omega) rfl (Nat.le_of_ble_eq_true rfl) dc_H_tryLock_10 rfl (fun x3 p3 => ?_)
  refine th_istore (lv' := [(0, .inr (some (0, 0))), (1, .inr (some (6, i))), (2, .inl m), (3, .inl s), (4, .inl x3)]) C dc_H_tryLock_13 (by decide) rfl ?_
  refine th_iload C dc_H_tryLock_15 rfl ?_
  refine tq_if_eq (tgt := 34) C dc_H_tryLock_17 (by decide) rfl (fun c4 => ?_) (fun c4 => ?_)
  · refine th_aload_n C dc_H_tryLock_34 rfl rfl ?_
    refine th_aload_n C dc_H_tryLock_35 rfl rfl ?_
    refine th_iload_n C dc_H_tryLock_36 rfl rfl ?_
    refine th_iload C dc_H_tryLock_37 rfl ?_
    refine tq_if_eq (tgt := 46) C dc_H_tryLock_39 (by decide) rfl (fun c5 => ?_) (fun c5 => ?_)
    · refine th_iconst (v := 0) C dc_H_tryLock_46 th_c_0 ?_
      refine tq_callVv C (c_H_write l hl I i s ((0 : Int32)) hI (by have := th_l_0; omega) (by have := th_l_0; omega)) ok_H_205 cl_0 (show 0 < 1 from by omega) rfl (Nat.le_of_ble_eq_true rfl) dc_H_tryLock_47 rfl (fun I6 p6 => ?_)
      obtain ⟨hI6, p6⟩ := p6
      try simp only [th_l_0] at p6
      exact th_vret C hQ dc_H_tryLock_50 (by decide) (by decide) ⟨_, rfl, rfl, hI6, trivial⟩
    · refine th_iconst (v := 1) C dc_H_tryLock_42 th_c_1 ?_
      refine th_goto (tgt := 47) C dc_H_tryLock_43 (by decide) ?_
      refine tq_callVv C (c_H_write l hl I i s ((1 : Int32)) hI (by have := th_l_1; omega) (by have := th_l_1; omega)) ok_H_205 cl_0 (show 0 < 1 from by omega) rfl (Nat.le_of_ble_eq_true rfl) dc_H_tryLock_47 rfl (fun I7 p7 => ?_)
      obtain ⟨hI7, p7⟩ := p7
      try simp only [th_l_1] at p7
      exact th_vret C hQ dc_H_tryLock_50 (by decide) (by decide) ⟨_, rfl, rfl, hI7, trivial⟩
  · refine th_aload_n C dc_H_tryLock_20 rfl rfl ?_
    refine tq_getR C dc_H_tryLock_21 cl_0 fd_H_20 rfl (show 0 < 1 from by omega) rfl ?_
    refine th_iload_n C dc_H_tryLock_24 rfl rfl ?_
    refine tq_aaldN C dc_H_tryLock_25 rfl (fun _ => rfl) (show 0 < 1 from by omega) rfl m1 (show n1 < 3 from by omega) (fun _ => rfl) ?_
    refine th_aload_n C dc_H_tryLock_26 rfl rfl ?_
    refine tq_getIe C dc_H_tryLock_27 cl_6 fd_H_176 rfl (show i < 5 from by omega) e2 ?_
    refine th_iconst (v := 1) C dc_H_tryLock_30 th_c_1 ?_
    refine tq_callVv C (c_M_give l hl I n1 x2 ((1 : Int32)) hI (by have := th_l_1; omega)) ok_H_270 cl_16 (show n1 < 3 from by omega) rfl (Nat.le_of_ble_eq_true rfl) dc_H_tryLock_31 rfl (fun I8 p8 => ?_)
    obtain ⟨hI8, p8⟩ := p8
    try simp only [th_l_1] at p8
    refine th_aload_n C dc_H_tryLock_34 rfl rfl ?_
    refine th_aload_n C dc_H_tryLock_35 rfl rfl ?_
    refine th_iload_n C dc_H_tryLock_36 rfl rfl ?_
    refine th_iload C dc_H_tryLock_37 rfl ?_
    refine tq_if_eq (tgt := 46) C dc_H_tryLock_39 (by decide) rfl (fun c9 => ?_) (fun c9 => ?_)
    · refine th_iconst (v := 0) C dc_H_tryLock_46 th_c_0 ?_
      refine tq_callVv C (c_H_write l hl I8 i s ((0 : Int32)) hI8 (by have := th_l_0; omega) (by have := th_l_0; omega)) ok_H_205 cl_0 (show 0 < 1 from by omega) rfl (Nat.le_of_ble_eq_true rfl) dc_H_tryLock_47 rfl (fun I10 p10 => ?_)
      obtain ⟨hI10, p10⟩ := p10
      try simp only [th_l_0] at p10
      exact th_vret C hQ dc_H_tryLock_50 (by decide) (by decide) ⟨_, rfl, rfl, hI10, trivial⟩
    · refine th_iconst (v := 1) C dc_H_tryLock_42 th_c_1 ?_
      refine th_goto (tgt := 47) C dc_H_tryLock_43 (by decide) ?_
      refine tq_callVv C (c_H_write l hl I8 i s ((1 : Int32)) hI8 (by have := th_l_1; omega) (by have := th_l_1; omega)) ok_H_205 cl_0 (show 0 < 1 from by omega) rfl (Nat.le_of_ble_eq_true rfl) dc_H_tryLock_47 rfl (fun I11 p11 => ?_)
      obtain ⟨hI11, p11⟩ := p11
      try simp only [th_l_1] at p11
      exact th_vret C hQ dc_H_tryLock_50 (by decide) (by decide) ⟨_, rfl, rfl, hI11, trivial⟩

set_option maxRecDepth 100000 in
set_option maxHeartbeats 4000000 in
theorem c_H_beginWait (l : Launch) (hl : l.stackTraces = false) {K sl : Int} {Z : th_I} (I : th_I) (i : Nat) (c : Int32) (m : Int32) (hI : th_Inv K sl Z I) (hi : i < 5) (hc : 0 ≤ c.toInt ∧ c.toInt ≤ 2) (hm : 0 ≤ m.toInt ∧ m.toInt ≤ 2) : th_F l yn_H_beginWait cb_H_beginWait 5 (some .int) { frames := 3, cells := 0, slots := 0, locals := 66 } [.inr (some (0, 0)), .inr (some (6, i)), .inl c, .inl m] (th_m I) (th_ri (fun x J => th_Inv K sl Z J ∧ (0 ≤ x.toInt ∧ x.toInt ≤ 7))) := by
  refine th_of hl (by decide +kernel) (Nat.le_of_ble_eq_true rfl) (fun z C hQ hN => ?_)
  show th_G l z 5 0 [(0, .inr (some (0, 0))), (1, .inr (some (6, i))), (2, .inl c), (3, .inl m)] [] (th_m I) 0 0
  have hb := hI.2.2.1
  refine th_aload_n C dc_H_beginWait_0 rfl rfl ?_
  refine tq_getR C dc_H_beginWait_1 cl_0 fd_H_20 rfl (show 0 < 1 from by omega) rfl ?_
  refine th_iload_n C dc_H_beginWait_4 rfl rfl ?_
  obtain ⟨n1, m1⟩ := th_nat (a := m.toInt) (by omega)
  refine tq_aaldN C dc_H_beginWait_5 rfl (fun _ => rfl) (show 0 < 1 from by omega) rfl m1 (show n1 < 3 from by omega) (fun _ => rfl) ?_
  refine th_astore (lv' := [(0, .inr (some (0, 0))), (1, .inr (some (6, i))), (2, .inl c), (3, .inl m), (4, .inr (some (16, n1)))]) C dc_H_beginWait_6 (by decide) rfl ?_
  refine th_aload C dc_H_beginWait_8 rfl ?_
  refine tq_getI C dc_H_beginWait_10 cl_16 fd_H_146 rfl (show n1 < 3 from by omega) (fun x2 e2 => ?_)
  have g2 : x2.toInt = (I 16 n1 1).toInt := by rw [e2]
  refine th_aload_n C dc_H_beginWait_13 rfl rfl ?_
  refine tq_getI C dc_H_beginWait_14 cl_6 fd_H_176 rfl (show i < 5 from by omega) (fun x3 e3 => ?_)
  have g3 : x3.toInt = (I 6 i 0).toInt := by rw [e3]
  have r3 : x3.toInt = (i : Int) ∨ 5 ≤ i := by rw [e3]; exact hI.1 6 i 0
  refine tq_icmp_eq (tgt := 22) C dc_H_beginWait_17 (by decide) rfl rfl (fun c4 => ?_) (fun c4 => ?_)
  · refine th_aload_n C dc_H_beginWait_22 rfl rfl ?_
    refine tq_getI C dc_H_beginWait_23 cl_6 fd_H_125 rfl (show i < 5 from by omega) (fun x5 e5 => ?_)
    have g5 : x5.toInt = (I 6 i 11).toInt := by rw [e5]
    refine tq_if_eq (tgt := 32) C dc_H_beginWait_26 (by decide) rfl (fun c6 => ?_) (fun c6 => ?_)
    · refine th_aload_n C dc_H_beginWait_32 rfl rfl ?_
      refine th_iload_n C dc_H_beginWait_33 rfl rfl ?_
      refine tq_putI C dc_H_beginWait_34 cl_6 fd_H_285 rfl (show i < 5 from by omega) rfl rfl ?_
      refine th_gen (P := fun J => th_Inv K sl Z J ∧ J = th_u I 6 i 13 c) ⟨th_put hI (by decide) (show 0 ≤ c.toInt ∧ c.toInt ≤ 2 from by omega), rfl⟩ (fun I7 hI7 => ?_)
      obtain ⟨hI7, u7⟩ := hI7
      have e8 : x2 = I7 16 n1 1 := by rw [u7, th_u_tag (by decide)]; exact e2
      have g8 : x2.toInt = (I7 16 n1 1).toInt := by rw [← e8]
      have e9 : x3 = I7 6 i 0 := by rw [u7, th_u_slot (by decide)]; exact e3
      have g9 : x3.toInt = (I7 6 i 0).toInt := by rw [← e9]
      have e10 : x5 = I7 6 i 11 := by rw [u7, th_u_slot (by decide)]; exact e5
      have g10 : x5.toInt = (I7 6 i 11).toInt := by rw [← e10]
      have e7 : c = I7 6 i 13 := by rw [u7, th_u_eq]
      have g7 : c.toInt = (I7 6 i 13).toInt := by rw [← e7]
      refine th_aload_n C dc_H_beginWait_37 rfl rfl ?_
      refine th_iload_n C dc_H_beginWait_38 rfl rfl ?_
      refine tq_putI C dc_H_beginWait_39 cl_6 fd_H_288 rfl (show i < 5 from by omega) rfl rfl ?_
      refine th_gen (P := fun J => th_Inv K sl Z J ∧ J = th_u I7 6 i 14 m) ⟨th_put hI7 (by decide) (show 0 ≤ m.toInt ∧ m.toInt ≤ 2 from by omega), rfl⟩ (fun I11 hI11 => ?_)
      obtain ⟨hI11, u11⟩ := hI11
      have e12 : x2 = I11 16 n1 1 := by rw [u11, th_u_tag (by decide)]; exact e8
      have g12 : x2.toInt = (I11 16 n1 1).toInt := by rw [← e12]
      have e13 : x3 = I11 6 i 0 := by rw [u11, th_u_slot (by decide)]; exact e9
      have g13 : x3.toInt = (I11 6 i 0).toInt := by rw [← e13]
      have e14 : x5 = I11 6 i 11 := by rw [u11, th_u_slot (by decide)]; exact e10
      have g14 : x5.toInt = (I11 6 i 11).toInt := by rw [← e14]
      have e15 : c = I11 6 i 13 := by rw [u11, th_u_slot (by decide)]; exact e7
      have g15 : c.toInt = (I11 6 i 13).toInt := by rw [← e15]
      have e11 : m = I11 6 i 14 := by rw [u11, th_u_eq]
      have g11 : m.toInt = (I11 6 i 14).toInt := by rw [← e11]
      refine th_aload_n C dc_H_beginWait_42 rfl rfl ?_
      refine th_aload C dc_H_beginWait_43 rfl ?_
      refine tq_getI C dc_H_beginWait_45 cl_16 fd_H_149 rfl (show n1 < 3 from by omega) (fun x16 e16 => ?_)
      have g16 : x16.toInt = (I11 16 n1 2).toInt := by rw [e16]
      refine tq_putI C dc_H_beginWait_48 cl_6 fd_H_273 rfl (show i < 5 from by omega) rfl rfl ?_
      refine th_gen (P := fun J => th_Inv K sl Z J ∧ J = th_u I11 6 i 15 x16) ⟨th_put hI11 (by decide) trivial, rfl⟩ (fun I17 hI17 => ?_)
      obtain ⟨hI17, u17⟩ := hI17
      have e18 : x2 = I17 16 n1 1 := by rw [u17, th_u_tag (by decide)]; exact e12
      have g18 : x2.toInt = (I17 16 n1 1).toInt := by rw [← e18]
      have e19 : x3 = I17 6 i 0 := by rw [u17, th_u_slot (by decide)]; exact e13
      have g19 : x3.toInt = (I17 6 i 0).toInt := by rw [← e19]
      have e20 : x5 = I17 6 i 11 := by rw [u17, th_u_slot (by decide)]; exact e14
      have g20 : x5.toInt = (I17 6 i 11).toInt := by rw [← e20]
      have e21 : c = I17 6 i 13 := by rw [u17, th_u_slot (by decide)]; exact e15
      have g21 : c.toInt = (I17 6 i 13).toInt := by rw [← e21]
      have e22 : m = I17 6 i 14 := by rw [u17, th_u_slot (by decide)]; exact e11
      have g22 : m.toInt = (I17 6 i 14).toInt := by rw [← e22]
      have e23 : x16 = I17 16 n1 2 := by rw [u17, th_u_tag (by decide)]; exact e16
      have g23 : x16.toInt = (I17 16 n1 2).toInt := by rw [← e23]
      have e17 : x16 = I17 6 i 15 := by rw [u17, th_u_eq]
      have g17 : x16.toInt = (I17 6 i 15).toInt := by rw [← e17]
      refine th_aload_n C dc_H_beginWait_51 rfl rfl ?_
      refine th_iconst (v := 3) C dc_H_beginWait_52 th_c_3 ?_
      refine tq_putI C dc_H_beginWait_53 cl_6 fd_H_106 rfl (show i < 5 from by omega) rfl rfl ?_
      refine th_gen (P := fun J => th_Inv K sl Z J ∧ J = th_u I17 6 i 5 ((3 : Int32))) ⟨th_put hI17 (by decide) trivial, rfl⟩ (fun I24 hI24 => ?_)
      obtain ⟨hI24, u24⟩ := hI24
      have e25 : x2 = I24 16 n1 1 := by rw [u24, th_u_tag (by decide)]; exact e18
      have g25 : x2.toInt = (I24 16 n1 1).toInt := by rw [← e25]
      have e26 : x3 = I24 6 i 0 := by rw [u24, th_u_slot (by decide)]; exact e19
      have g26 : x3.toInt = (I24 6 i 0).toInt := by rw [← e26]
      have e27 : x5 = I24 6 i 11 := by rw [u24, th_u_slot (by decide)]; exact e20
      have g27 : x5.toInt = (I24 6 i 11).toInt := by rw [← e27]
      have e28 : c = I24 6 i 13 := by rw [u24, th_u_slot (by decide)]; exact e21
      have g28 : c.toInt = (I24 6 i 13).toInt := by rw [← e28]
      have e29 : m = I24 6 i 14 := by rw [u24, th_u_slot (by decide)]; exact e22
      have g29 : m.toInt = (I24 6 i 14).toInt := by rw [← e29]
      have e30 : x16 = I24 16 n1 2 := by rw [u24, th_u_tag (by decide)]; exact e23
      have g30 : x16.toInt = (I24 16 n1 2).toInt := by rw [← e30]
      have e31 : x16 = I24 6 i 15 := by rw [u24, th_u_slot (by decide)]; exact e17
      have g31 : x16.toInt = (I24 6 i 15).toInt := by rw [← e31]
      have e24 : (3 : Int32) = I24 6 i 5 := by rw [u24, th_u_eq]
      have g24 : 3 = (I24 6 i 5).toInt := by rw [← e24]; exact th_l_3.symm
      refine th_aload_n C dc_H_beginWait_56 rfl rfl ?_
      refine tq_getR C dc_H_beginWait_57 cl_0 fd_H_27 rfl (show 0 < 1 from by omega) rfl ?_
      refine th_iload_n C dc_H_beginWait_60 rfl rfl ?_
      obtain ⟨n32, m32⟩ := th_nat (a := c.toInt) (by omega)
      refine tq_aaldN C dc_H_beginWait_61 rfl (fun _ => rfl) (show 0 < 1 from by omega) rfl m32 (show n32 < 3 from by omega) (fun _ => rfl) ?_
      refine th_aload_n C dc_H_beginWait_62 rfl rfl ?_
      refine tq_getIe C dc_H_beginWait_63 cl_6 fd_H_176 rfl (show i < 5 from by omega) e26 ?_
      refine tq_callVv C (c_R_append l hl I24 (8 + n32) x3 hI24 (by omega) (by omega)) ok_H_276 cl_14 (show 8 + n32 < 11 from by omega) rfl (Nat.le_of_ble_eq_true rfl) dc_H_beginWait_66 rfl (fun I33 p33 => ?_)
      obtain ⟨hI33, p33⟩ := p33
      refine th_aload_n C dc_H_beginWait_69 rfl rfl ?_
      refine th_aload C dc_H_beginWait_70 rfl ?_
      refine tq_callVv C (c_H_passOn l hl I33 n1 hI33 (by omega)) ok_H_278 cl_0 (show 0 < 1 from by omega) rfl (Nat.le_of_ble_eq_true rfl) dc_H_beginWait_72 rfl (fun I34 p34 => ?_)
      obtain ⟨hI34, p34⟩ := p34
      refine th_iconst (v := 0) C dc_H_beginWait_75 th_c_0 ?_
      exact th_iret C hQ dc_H_beginWait_76 (by decide) (by decide) ⟨_, _, rfl, rfl, hI34, (by have := th_l_0; first | omega | (dsimp only; omega))⟩
    · refine th_bipush (v := 7) C dc_H_beginWait_29 th_b_7 ?_
      exact th_iret C hQ dc_H_beginWait_31 (by decide) (by decide) ⟨_, _, rfl, rfl, hI, (by have := th_l_7; first | omega | (dsimp only; omega))⟩
  · refine th_iconst (v := 3) C dc_H_beginWait_20 th_c_3 ?_
    exact th_iret C hQ dc_H_beginWait_21 (by decide) (by decide) ⟨_, _, rfl, rfl, hI, (by have := th_l_3; first | omega | (dsimp only; omega))⟩

set_option maxRecDepth 100000 in
set_option maxHeartbeats 4000000 in
theorem c_H_tellFirst (l : Launch) (hl : l.stackTraces = false) {K sl : Int} {Z : th_I} (I : th_I) (r : Nat) (hI : th_Inv K sl Z I) (hr : r < 11) : th_F l yn_H_tellFirst cb_H_tellFirst 3 none { frames := 2, cells := 0, slots := 0, locals := 46 } [.inr (some (0, 0)), .inr (some (14, r))] (th_m I) (th_rv (fun J => th_Inv K sl Z J ∧ (True))) := by
  refine th_of hl (by decide +kernel) (Nat.le_of_ble_eq_true rfl) (fun z C hQ hN => ?_)
  show th_G l z 3 0 [(0, .inr (some (0, 0))), (1, .inr (some (14, r)))] [] (th_m I) 0 0
  have hb := hI.2.2.1
  refine th_aload_n C dc_H_tellFirst_0 rfl rfl ?_
  refine tq_callVi C (c_R_takeFirst l hl I r hI (by omega)) ok_H_282 cl_14 (show r < 11 from by omega) rfl (Nat.le_of_ble_eq_true rfl) dc_H_tellFirst_1 rfl (fun x1 I1 p1 => ?_)
  obtain ⟨hI1, p1⟩ := p1
  refine th_istore_n (lv' := [(0, .inr (some (0, 0))), (1, .inr (some (14, r))), (2, .inl x1)]) C dc_H_tellFirst_4 rfl (by decide) rfl ?_
  refine th_iload_n C dc_H_tellFirst_5 rfl rfl ?_
  refine th_iconst (v := -1) C dc_H_tellFirst_6 th_c_m1 ?_
  refine tq_icmp_eq (tgt := 38) C dc_H_tellFirst_7 (by decide) rfl th_l_m1 (fun c2 => ?_) (fun c2 => ?_)
  · exact th_vret C hQ dc_H_tellFirst_38 (by decide) (by decide) ⟨_, rfl, rfl, hI1, trivial⟩
  · refine th_aload_n C dc_H_tellFirst_10 rfl rfl ?_
    refine th_aload_n C dc_H_tellFirst_11 rfl rfl ?_
    refine tq_getR C dc_H_tellFirst_12 cl_0 fd_H_11 rfl (show 0 < 1 from by omega) rfl ?_
    refine th_iload_n C dc_H_tellFirst_15 rfl rfl ?_
    obtain ⟨n3, m3⟩ := th_nat (a := x1.toInt) (by omega)
    refine tq_aaldN C dc_H_tellFirst_16 rfl (fun _ => rfl) (show 0 < 1 from by omega) rfl m3 (show n3 < 5 from by omega) (fun _ => rfl) ?_
    refine th_aload_n C dc_H_tellFirst_17 rfl rfl ?_
    refine tq_getR C dc_H_tellFirst_18 cl_0 fd_H_11 rfl (show 0 < 1 from by omega) rfl ?_
    refine th_iload_n C dc_H_tellFirst_21 rfl rfl ?_
    refine tq_aaldN C dc_H_tellFirst_22 rfl (fun _ => rfl) (show 0 < 1 from by omega) rfl m3 (show n3 < 5 from by omega) (fun _ => rfl) ?_
    refine tq_getI C dc_H_tellFirst_23 cl_6 fd_H_288 rfl (show n3 < 5 from by omega) (fun x4 e4 => ?_)
    have g4 : x4.toInt = (I1 6 n3 14).toInt := by rw [e4]
    have r4 : 0 ≤ x4.toInt ∧ x4.toInt ≤ 2 := by rw [e4]; exact hI1.1 6 n3 14
    refine th_aload_n C dc_H_tellFirst_26 rfl rfl ?_
    refine tq_getR C dc_H_tellFirst_27 cl_0 fd_H_11 rfl (show 0 < 1 from by omega) rfl ?_
    refine th_iload_n C dc_H_tellFirst_30 rfl rfl ?_
    refine tq_aaldN C dc_H_tellFirst_31 rfl (fun _ => rfl) (show 0 < 1 from by omega) rfl m3 (show n3 < 5 from by omega) (fun _ => rfl) ?_
    refine tq_getI C dc_H_tellFirst_32 cl_6 fd_H_273 rfl (show n3 < 5 from by omega) (fun x5 e5 => ?_)
    have g5 : x5.toInt = (I1 6 n3 15).toInt := by rw [e5]
    refine tq_callVv C (c_H_goFor l hl I1 n3 x4 x5 hI1 (by omega) (by omega)) ok_H_216 cl_0 (show 0 < 1 from by omega) rfl (Nat.le_of_ble_eq_true rfl) dc_H_tellFirst_35 rfl (fun I6 p6 => ?_)
    obtain ⟨hI6, p6⟩ := p6
    exact th_vret C hQ dc_H_tellFirst_38 (by decide) (by decide) ⟨_, rfl, rfl, hI6, trivial⟩

set_option maxRecDepth 100000 in
set_option maxHeartbeats 4000000 in
theorem c_H_tellAll (l : Launch) (hl : l.stackTraces = false) {K sl : Int} {Z : th_I} (I : th_I) (r : Nat) (hI : th_Inv K sl Z I) (hr : r < 11) : th_F l yn_H_tellAll cb_H_tellAll 3 none { frames := 3, cells := 0, slots := 0, locals := 68 } [.inr (some (0, 0)), .inr (some (14, r))] (th_m I) (th_rv (fun J => th_Inv K sl Z J ∧ (True))) := by
  refine th_of hl (by decide +kernel) (Nat.le_of_ble_eq_true rfl) (fun z C hQ hN => ?_)
  show th_G l z 3 0 [(0, .inr (some (0, 0))), (1, .inr (some (14, r)))] [] (th_m I) 0 0
  have hb := hI.2.2.1
  refine th_aload_n C dc_H_tellAll_0 rfl rfl ?_
  refine tq_getI C dc_H_tellAll_1 cl_14 fd_H_142 rfl (show r < 11 from by omega) (fun x1 e1 => ?_)
  have g1 : x1.toInt = (I 14 r 1).toInt := by rw [e1]
  have r1 : 0 ≤ x1.toInt ∧ x1.toInt ≤ 5 := by rw [e1]; exact hI.1 14 r 1
  refine th_istore_n (lv' := [(0, .inr (some (0, 0))), (1, .inr (some (14, r))), (2, .inl x1)]) C dc_H_tellAll_4 rfl (by decide) rfl ?_
  have L5 : ∀ (N : Nat) (k : Int32) (I2 : th_I), (th_Inv K sl Z I2) → (k.toInt ≤ 5) → k.toInt.toNat < N → th_G l z 3 5 [(0, .inr (some (0, 0))), (1, .inr (some (14, r))), (2, .inl k)] [] (th_m I2) 0 0 := by
    intro N
    induction N with
    | zero => intro k I2 hI2 h1 hm; exact absurd hm (Nat.not_lt_zero _)
    | succ N ih =>
      intro k I2 hI2 h1 hm
      refine th_iload_n C dc_H_tellAll_5 rfl rfl ?_
      refine tq_if_le (tgt := 20) C dc_H_tellAll_6 (by decide) rfl (fun c3 => ?_) (fun c3 => ?_)
      · exact th_vret C hQ dc_H_tellAll_20 (by decide) (by decide) ⟨_, rfl, rfl, hI2, trivial⟩
      · refine th_aload_n C dc_H_tellAll_9 rfl rfl ?_
        refine th_aload_n C dc_H_tellAll_10 rfl rfl ?_
        refine tq_callVv C (c_H_tellFirst l hl I2 r hI2 (by omega)) ok_H_228 cl_0 (show 0 < 1 from by omega) rfl (Nat.le_of_ble_eq_true rfl) dc_H_tellAll_11 rfl (fun I4 p4 => ?_)
        obtain ⟨hI4, p4⟩ := p4
        refine tq_iinc (lv' := fun rr => [(0, .inr (some (0, 0))), (1, .inr (some (14, r))), (2, .inl rr)]) C dc_H_tellAll_14 rfl (by decide) th_c_m1 rfl th_l_m1 (fun rr => rfl) (fun x5 e5 a5 => ?_)
        refine th_goto (tgt := 5) C dc_H_tellAll_17 (by decide) ?_
        exact ih x5 I4 hI4 (by omega) (by omega)
  exact L5 _ x1 I hI (by omega) (Nat.lt_succ_self _)

set_option maxRecDepth 100000 in
set_option maxHeartbeats 4000000 in
theorem c_H_startOther (l : Launch) (hl : l.stackTraces = false) {K sl : Int} {Z : th_I} (I : th_I) (i : Nat) (hI : th_Inv K sl Z I) (hi : i < 5) : th_F l yn_H_startOther cb_H_startOther 1 (some .int) { frames := 3, cells := 0, slots := 0, locals := 60 } [.inr (some (6, i))] (th_m I) (th_ri (fun x J => th_Inv K sl Z J ∧ (0 ≤ x.toInt ∧ x.toInt ≤ 7))) := by
  refine th_of hl (by decide +kernel) (Nat.le_of_ble_eq_true rfl) (fun z C hQ hN => ?_)
  show th_G l z 1 0 [(0, .inr (some (6, i)))] [] (th_m I) 0 0
  have hb := hI.2.2.1
  refine th_aload_n C dc_H_startOther_0 rfl rfl ?_
  refine tq_callVp C (c_S_isAlive l hl I i (by omega)) ok_H_79 cl_6 (show i < 5 from by omega) rfl (Nat.le_of_ble_eq_true rfl) dc_H_startOther_1 rfl (fun x1 p1 => ?_)
  refine tq_if_eq (tgt := 9) C dc_H_startOther_4 (by decide) rfl (fun c2 => ?_) (fun c2 => ?_)
  · refine th_aload_n C dc_H_startOther_9 rfl rfl ?_
    refine tq_callVv C (c_S_beginAnew l hl I i hI (by omega)) ok_H_83 cl_6 (show i < 5 from by omega) rfl (Nat.le_of_ble_eq_true rfl) dc_H_startOther_10 rfl (fun I3 p3 => ?_)
    obtain ⟨hI3, p3⟩ := p3
    refine th_iconst (v := 0) C dc_H_startOther_13 th_c_0 ?_
    exact th_iret C hQ dc_H_startOther_14 (by decide) (by decide) ⟨_, _, rfl, rfl, hI3, (by have := th_l_0; first | omega | (dsimp only; omega))⟩
  · refine th_iconst (v := 4) C dc_H_startOther_7 th_c_4 ?_
    exact th_iret C hQ dc_H_startOther_8 (by decide) (by decide) ⟨_, _, rfl, rfl, hI, (by have := th_l_4; first | omega | (dsimp only; omega))⟩

set_option maxRecDepth 100000 in
set_option maxHeartbeats 4000000 in
theorem c_H_beginJoin (l : Launch) (hl : l.stackTraces = false) {K sl : Int} {Z : th_I} (I : th_I) (i : Nat) (t : Int32) (s : Int32) (hI : th_Inv K sl Z I) (hi : i < 5) (ht : 0 ≤ t.toInt ∧ t.toInt ≤ 4) (hs : 0 ≤ s.toInt ∧ s.toInt ≤ 3) : th_F l yn_H_beginJoin cb_H_beginJoin 5 (some .int) { frames := 2, cells := 0, slots := 0, locals := 46 } [.inr (some (0, 0)), .inr (some (6, i)), .inl t, .inl s] (th_m I) (th_ri (fun x J => th_Inv K sl Z J ∧ (0 ≤ x.toInt ∧ x.toInt ≤ 7))) := by
  refine th_of hl (by decide +kernel) (Nat.le_of_ble_eq_true rfl) (fun z C hQ hN => ?_)
  show th_G l z 5 0 [(0, .inr (some (0, 0))), (1, .inr (some (6, i))), (2, .inl t), (3, .inl s)] [] (th_m I) 0 0
  have hb := hI.2.2.1
  refine th_aload_n C dc_H_beginJoin_0 rfl rfl ?_
  refine tq_getR C dc_H_beginJoin_1 cl_0 fd_H_11 rfl (show 0 < 1 from by omega) rfl ?_
  refine th_iload_n C dc_H_beginJoin_4 rfl rfl ?_
  obtain ⟨n1, m1⟩ := th_nat (a := t.toInt) (by omega)
  refine tq_aaldN C dc_H_beginJoin_5 rfl (fun _ => rfl) (show 0 < 1 from by omega) rfl m1 (show n1 < 5 from by omega) (fun _ => rfl) ?_
  refine th_astore (lv' := [(0, .inr (some (0, 0))), (1, .inr (some (6, i))), (2, .inl t), (3, .inl s), (4, .inr (some (6, n1)))]) C dc_H_beginJoin_6 (by decide) rfl ?_
  refine th_aload C dc_H_beginJoin_8 rfl ?_
  refine tq_getI C dc_H_beginJoin_10 cl_6 fd_H_106 rfl (show n1 < 5 from by omega) (fun x2 e2 => ?_)
  have g2 : x2.toInt = (I 6 n1 5).toInt := by rw [e2]
  refine th_iconst (v := 5) C dc_H_beginJoin_13 th_c_5 ?_
  refine tq_icmp_ne (tgt := 30) C dc_H_beginJoin_14 (by decide) rfl th_l_5 (fun c3 => ?_) (fun c3 => ?_)
  · refine th_aload C dc_H_beginJoin_30 rfl ?_
    refine tq_getIe C dc_H_beginJoin_32 cl_6 fd_H_106 rfl (show n1 < 5 from by omega) e2 ?_
    refine tq_if_eq (tgt := 46) C dc_H_beginJoin_35 (by decide) rfl (fun c4 => ?_) (fun c4 => ?_)
    · refine th_iconst (v := 5) C dc_H_beginJoin_46 th_c_5 ?_
      exact th_iret C hQ dc_H_beginJoin_47 (by decide) (by decide) ⟨_, _, rfl, rfl, hI, (by have := th_l_5; first | omega | (dsimp only; omega))⟩
    · refine th_iload_n C dc_H_beginJoin_38 rfl rfl ?_
      refine th_aload_n C dc_H_beginJoin_39 rfl rfl ?_
      refine tq_getI C dc_H_beginJoin_40 cl_6 fd_H_176 rfl (show i < 5 from by omega) (fun x5 e5 => ?_)
      have g5 : x5.toInt = (I 6 i 0).toInt := by rw [e5]
      have r5 : x5.toInt = (i : Int) ∨ 5 ≤ i := by rw [e5]; exact hI.1 6 i 0
      refine tq_icmp_ne (tgt := 48) C dc_H_beginJoin_43 (by decide) rfl rfl (fun c6 => ?_) (fun c6 => ?_)
      · refine th_aload_n C dc_H_beginJoin_48 rfl rfl ?_
        refine tq_getI C dc_H_beginJoin_49 cl_6 fd_H_125 rfl (show i < 5 from by omega) (fun x7 e7 => ?_)
        have g7 : x7.toInt = (I 6 i 11).toInt := by rw [e7]
        refine tq_if_eq (tgt := 58) C dc_H_beginJoin_52 (by decide) rfl (fun c8 => ?_) (fun c8 => ?_)
        · refine th_aload_n C dc_H_beginJoin_58 rfl rfl ?_
          refine th_iload_n C dc_H_beginJoin_59 rfl rfl ?_
          refine tq_putI C dc_H_beginJoin_60 cl_6 fd_H_291 rfl (show i < 5 from by omega) rfl rfl ?_
          refine th_gen (P := fun J => th_Inv K sl Z J ∧ J = th_u I 6 i 16 t) ⟨th_put hI (by decide) (show 0 ≤ t.toInt ∧ t.toInt ≤ 4 from by omega), rfl⟩ (fun I9 hI9 => ?_)
          obtain ⟨hI9, u9⟩ := hI9
          have e10 : x2 = I9 6 n1 5 := by rw [u9, th_u_slot (by decide)]; exact e2
          have g10 : x2.toInt = (I9 6 n1 5).toInt := by rw [← e10]
          have e11 : x5 = I9 6 i 0 := by rw [u9, th_u_slot (by decide)]; exact e5
          have g11 : x5.toInt = (I9 6 i 0).toInt := by rw [← e11]
          have e12 : x7 = I9 6 i 11 := by rw [u9, th_u_slot (by decide)]; exact e7
          have g12 : x7.toInt = (I9 6 i 11).toInt := by rw [← e12]
          have e9 : t = I9 6 i 16 := by rw [u9, th_u_eq]
          have g9 : t.toInt = (I9 6 i 16).toInt := by rw [← e9]
          refine th_aload_n C dc_H_beginJoin_63 rfl rfl ?_
          refine th_iload_n C dc_H_beginJoin_64 rfl rfl ?_
          refine tq_putI C dc_H_beginJoin_65 cl_6 fd_H_294 rfl (show i < 5 from by omega) rfl rfl ?_
          refine th_gen (P := fun J => th_Inv K sl Z J ∧ J = th_u I9 6 i 17 s) ⟨th_put hI9 (by decide) (show 0 ≤ s.toInt ∧ s.toInt ≤ 3 from by omega), rfl⟩ (fun I13 hI13 => ?_)
          obtain ⟨hI13, u13⟩ := hI13
          have e14 : x2 = I13 6 n1 5 := by rw [u13, th_u_slot (by decide)]; exact e10
          have g14 : x2.toInt = (I13 6 n1 5).toInt := by rw [← e14]
          have e15 : x5 = I13 6 i 0 := by rw [u13, th_u_slot (by decide)]; exact e11
          have g15 : x5.toInt = (I13 6 i 0).toInt := by rw [← e15]
          have e16 : x7 = I13 6 i 11 := by rw [u13, th_u_slot (by decide)]; exact e12
          have g16 : x7.toInt = (I13 6 i 11).toInt := by rw [← e16]
          have e17 : t = I13 6 i 16 := by rw [u13, th_u_slot (by decide)]; exact e9
          have g17 : t.toInt = (I13 6 i 16).toInt := by rw [← e17]
          have e13 : s = I13 6 i 17 := by rw [u13, th_u_eq]
          have g13 : s.toInt = (I13 6 i 17).toInt := by rw [← e13]
          refine th_aload_n C dc_H_beginJoin_68 rfl rfl ?_
          refine th_iconst (v := 4) C dc_H_beginJoin_69 th_c_4 ?_
          refine tq_putI C dc_H_beginJoin_70 cl_6 fd_H_106 rfl (show i < 5 from by omega) rfl rfl ?_
          refine th_gen (P := fun J => th_Inv K sl Z J ∧ J = th_u I13 6 i 5 ((4 : Int32))) ⟨th_put hI13 (by decide) trivial, rfl⟩ (fun I18 hI18 => ?_)
          obtain ⟨hI18, u18⟩ := hI18
          have e19 : x5 = I18 6 i 0 := by rw [u18, th_u_slot (by decide)]; exact e15
          have g19 : x5.toInt = (I18 6 i 0).toInt := by rw [← e19]
          have e20 : x7 = I18 6 i 11 := by rw [u18, th_u_slot (by decide)]; exact e16
          have g20 : x7.toInt = (I18 6 i 11).toInt := by rw [← e20]
          have e21 : t = I18 6 i 16 := by rw [u18, th_u_slot (by decide)]; exact e17
          have g21 : t.toInt = (I18 6 i 16).toInt := by rw [← e21]
          have e22 : s = I18 6 i 17 := by rw [u18, th_u_slot (by decide)]; exact e13
          have g22 : s.toInt = (I18 6 i 17).toInt := by rw [← e22]
          have e18 : (4 : Int32) = I18 6 i 5 := by rw [u18, th_u_eq]
          have g18 : 4 = (I18 6 i 5).toInt := by rw [← e18]; exact th_l_4.symm
          refine th_aload C dc_H_beginJoin_73 rfl ?_
          refine tq_getR C dc_H_beginJoin_75 cl_6 fd_H_138 rfl (show n1 < 5 from by omega) rfl ?_
          refine th_aload_n C dc_H_beginJoin_78 rfl rfl ?_
          refine tq_getIe C dc_H_beginJoin_79 cl_6 fd_H_176 rfl (show i < 5 from by omega) e19 ?_
          refine tq_callVv C (c_R_append l hl I18 n1 x5 hI18 (by omega) (by omega)) ok_H_276 cl_14 (show n1 < 11 from by omega) rfl (Nat.le_of_ble_eq_true rfl) dc_H_beginJoin_82 rfl (fun I23 p23 => ?_)
          obtain ⟨hI23, p23⟩ := p23
          refine th_iconst (v := 0) C dc_H_beginJoin_85 th_c_0 ?_
          exact th_iret C hQ dc_H_beginJoin_86 (by decide) (by decide) ⟨_, _, rfl, rfl, hI23, (by have := th_l_0; first | omega | (dsimp only; omega))⟩
        · refine th_bipush (v := 7) C dc_H_beginJoin_55 th_b_7 ?_
          exact th_iret C hQ dc_H_beginJoin_57 (by decide) (by decide) ⟨_, _, rfl, rfl, hI, (by have := th_l_7; first | omega | (dsimp only; omega))⟩
      · refine th_iconst (v := 5) C dc_H_beginJoin_46 th_c_5 ?_
        exact th_iret C hQ dc_H_beginJoin_47 (by decide) (by decide) ⟨_, _, rfl, rfl, hI, (by have := th_l_5; first | omega | (dsimp only; omega))⟩
  · refine th_aload_n C dc_H_beginJoin_17 rfl rfl ?_
    refine th_aload_n C dc_H_beginJoin_18 rfl rfl ?_
    refine th_iload_n C dc_H_beginJoin_19 rfl rfl ?_
    refine th_aload C dc_H_beginJoin_20 rfl ?_
    refine tq_getI C dc_H_beginJoin_22 cl_6 fd_H_112 rfl (show n1 < 5 from by omega) (fun x24 e24 => ?_)
    have g24 : x24.toInt = (I 6 n1 7).toInt := by rw [e24]
    refine tq_callVv C (c_H_write l hl I i s x24 hI (by omega) (by omega)) ok_H_205 cl_0 (show 0 < 1 from by omega) rfl (Nat.le_of_ble_eq_true rfl) dc_H_beginJoin_25 rfl (fun I25 p25 => ?_)
    obtain ⟨hI25, p25⟩ := p25
    refine th_iconst (v := 0) C dc_H_beginJoin_28 th_c_0 ?_
    exact th_iret C hQ dc_H_beginJoin_29 (by decide) (by decide) ⟨_, _, rfl, rfl, hI25, (by have := th_l_0; first | omega | (dsimp only; omega))⟩

set_option maxRecDepth 100000 in
set_option maxHeartbeats 4000000 in
theorem c_H_interruptAlive (l : Launch) (hl : l.stackTraces = false) {K sl : Int} {Z : th_I} (I : th_I) (i : Nat) (hI : th_Inv K sl Z I) (hi : i < 5) : th_F l yn_H_interruptAlive cb_H_interruptAlive 2 none { frames := 2, cells := 0, slots := 0, locals := 46 } [.inr (some (0, 0)), .inr (some (6, i))] (th_m I) (th_rv (fun J => th_Inv K sl Z J ∧ (True))) := by
  refine th_of hl (by decide +kernel) (Nat.le_of_ble_eq_true rfl) (fun z C hQ hN => ?_)
  show th_G l z 2 0 [(0, .inr (some (0, 0))), (1, .inr (some (6, i)))] [] (th_m I) 0 0
  have hb := hI.2.2.1
  refine th_aload_n C dc_H_interruptAlive_0 rfl rfl ?_
  refine tq_getI C dc_H_interruptAlive_1 cl_6 fd_H_106 rfl (show i < 5 from by omega) (fun x1 e1 => ?_)
  have g1 : x1.toInt = (I 6 i 5).toInt := by rw [e1]
  refine th_iconst (v := 3) C dc_H_interruptAlive_4 th_c_3 ?_
  refine tq_icmp_ne (tgt := 45) C dc_H_interruptAlive_5 (by decide) rfl th_l_3 (fun c2 => ?_) (fun c2 => ?_)
  · refine th_aload_n C dc_H_interruptAlive_45 rfl rfl ?_
    refine tq_getIe C dc_H_interruptAlive_46 cl_6 fd_H_106 rfl (show i < 5 from by omega) e1 ?_
    refine th_iconst (v := 4) C dc_H_interruptAlive_49 th_c_4 ?_
    refine tq_icmp_ne (tgt := 85) C dc_H_interruptAlive_50 (by decide) rfl th_l_4 (fun c3 => ?_) (fun c3 => ?_)
    · refine th_aload_n C dc_H_interruptAlive_85 rfl rfl ?_
      refine tq_callVp C (c_S_isAlive l hl I i (by omega)) ok_H_79 cl_6 (show i < 5 from by omega) rfl (Nat.le_of_ble_eq_true rfl) dc_H_interruptAlive_86 rfl (fun x4 p4 => ?_)
      refine tq_if_eq (tgt := 97) C dc_H_interruptAlive_89 (by decide) rfl (fun c5 => ?_) (fun c5 => ?_)
      · exact th_vret C hQ dc_H_interruptAlive_97 (by decide) (by decide) ⟨_, rfl, rfl, hI, trivial⟩
      · refine th_aload_n C dc_H_interruptAlive_92 rfl rfl ?_
        refine th_iconst (v := 1) C dc_H_interruptAlive_93 th_c_1 ?_
        refine tq_putZ C dc_H_interruptAlive_94 cl_6 fd_H_125 rfl (show i < 5 from by omega) rfl rfl rfl rfl ?_
        refine th_gen (P := fun J => th_Inv K sl Z J ∧ J = th_u I 6 i 11 ((1 : Int32))) ⟨th_put hI (by decide) trivial, rfl⟩ (fun I6 hI6 => ?_)
        obtain ⟨hI6, u6⟩ := hI6
        have e7 : x1 = I6 6 i 5 := by rw [u6, th_u_slot (by decide)]; exact e1
        have g7 : x1.toInt = (I6 6 i 5).toInt := by rw [← e7]
        have e6 : (1 : Int32) = I6 6 i 11 := by rw [u6, th_u_eq]
        have g6 : 1 = (I6 6 i 11).toInt := by rw [← e6]; exact th_l_1.symm
        exact th_vret C hQ dc_H_interruptAlive_97 (by decide) (by decide) ⟨_, rfl, rfl, hI6, trivial⟩
    · refine th_aload_n C dc_H_interruptAlive_53 rfl rfl ?_
      refine tq_getR C dc_H_interruptAlive_54 cl_0 fd_H_11 rfl (show 0 < 1 from by omega) rfl ?_
      refine th_aload_n C dc_H_interruptAlive_57 rfl rfl ?_
      refine tq_getI C dc_H_interruptAlive_58 cl_6 fd_H_291 rfl (show i < 5 from by omega) (fun x8 e8 => ?_)
      have g8 : x8.toInt = (I 6 i 16).toInt := by rw [e8]
      have r8 : 0 ≤ x8.toInt ∧ x8.toInt ≤ 4 := by rw [e8]; exact hI.1 6 i 16
      obtain ⟨n9, m9⟩ := th_nat (a := x8.toInt) (by omega)
      refine tq_aaldN C dc_H_interruptAlive_61 rfl (fun _ => rfl) (show 0 < 1 from by omega) rfl m9 (show n9 < 5 from by omega) (fun _ => rfl) ?_
      refine tq_getR C dc_H_interruptAlive_62 cl_6 fd_H_138 rfl (show n9 < 5 from by omega) rfl ?_
      refine th_aload_n C dc_H_interruptAlive_65 rfl rfl ?_
      refine tq_getI C dc_H_interruptAlive_66 cl_6 fd_H_176 rfl (show i < 5 from by omega) (fun x10 e10 => ?_)
      have g10 : x10.toInt = (I 6 i 0).toInt := by rw [e10]
      have r10 : x10.toInt = (i : Int) ∨ 5 ≤ i := by rw [e10]; exact hI.1 6 i 0
      refine tq_callVv C (c_R_takeOut l hl I n9 x10 hI (by omega)) ok_H_297 cl_14 (show n9 < 11 from by omega) rfl (Nat.le_of_ble_eq_true rfl) dc_H_interruptAlive_69 rfl (fun I11 p11 => ?_)
      obtain ⟨hI11, p11⟩ := p11
      refine th_aload_n C dc_H_interruptAlive_72 rfl rfl ?_
      refine th_iconst (v := 1) C dc_H_interruptAlive_73 th_c_1 ?_
      refine tq_putZ C dc_H_interruptAlive_74 cl_6 fd_H_179 rfl (show i < 5 from by omega) rfl rfl rfl rfl ?_
      refine th_gen (P := fun J => th_Inv K sl Z J ∧ J = th_u I11 6 i 12 ((1 : Int32))) ⟨th_put hI11 (by decide) trivial, rfl⟩ (fun I12 hI12 => ?_)
      obtain ⟨hI12, u12⟩ := hI12
      have e12 : (1 : Int32) = I12 6 i 12 := by rw [u12, th_u_eq]
      have g12 : 1 = (I12 6 i 12).toInt := by rw [← e12]; exact th_l_1.symm
      refine th_aload_n C dc_H_interruptAlive_77 rfl rfl ?_
      refine th_iconst (v := 1) C dc_H_interruptAlive_78 th_c_1 ?_
      refine tq_putI C dc_H_interruptAlive_79 cl_6 fd_H_106 rfl (show i < 5 from by omega) rfl rfl ?_
      refine th_gen (P := fun J => th_Inv K sl Z J ∧ J = th_u I12 6 i 5 ((1 : Int32))) ⟨th_put hI12 (by decide) trivial, rfl⟩ (fun I13 hI13 => ?_)
      obtain ⟨hI13, u13⟩ := hI13
      have e14 : (1 : Int32) = I13 6 i 12 := by rw [u13, th_u_slot (by decide)]; exact e12
      have g14 : (1 : Int32).toInt = (I13 6 i 12).toInt := by rw [← e14]
      have e13 : (1 : Int32) = I13 6 i 5 := by rw [u13, th_u_eq]
      have g13 : 1 = (I13 6 i 5).toInt := by rw [← e13]; exact th_l_1.symm
      refine th_goto (tgt := 97) C dc_H_interruptAlive_82 (by decide) ?_
      exact th_vret C hQ dc_H_interruptAlive_97 (by decide) (by decide) ⟨_, rfl, rfl, hI13, trivial⟩
  · refine th_aload_n C dc_H_interruptAlive_8 rfl rfl ?_
    refine tq_getR C dc_H_interruptAlive_9 cl_0 fd_H_27 rfl (show 0 < 1 from by omega) rfl ?_
    refine th_aload_n C dc_H_interruptAlive_12 rfl rfl ?_
    refine tq_getI C dc_H_interruptAlive_13 cl_6 fd_H_285 rfl (show i < 5 from by omega) (fun x15 e15 => ?_)
    have g15 : x15.toInt = (I 6 i 13).toInt := by rw [e15]
    have r15 : 0 ≤ x15.toInt ∧ x15.toInt ≤ 2 := by rw [e15]; exact hI.1 6 i 13
    obtain ⟨n16, m16⟩ := th_nat (a := x15.toInt) (by omega)
    refine tq_aaldN C dc_H_interruptAlive_16 rfl (fun _ => rfl) (show 0 < 1 from by omega) rfl m16 (show n16 < 3 from by omega) (fun _ => rfl) ?_
    refine th_aload_n C dc_H_interruptAlive_17 rfl rfl ?_
    refine tq_getI C dc_H_interruptAlive_18 cl_6 fd_H_176 rfl (show i < 5 from by omega) (fun x17 e17 => ?_)
    have g17 : x17.toInt = (I 6 i 0).toInt := by rw [e17]
    have r17 : x17.toInt = (i : Int) ∨ 5 ≤ i := by rw [e17]; exact hI.1 6 i 0
    refine tq_callVv C (c_R_takeOut l hl I (8 + n16) x17 hI (by omega)) ok_H_297 cl_14 (show 8 + n16 < 11 from by omega) rfl (Nat.le_of_ble_eq_true rfl) dc_H_interruptAlive_21 rfl (fun I18 p18 => ?_)
    obtain ⟨hI18, p18⟩ := p18
    refine th_aload_n C dc_H_interruptAlive_24 rfl rfl ?_
    refine th_iconst (v := 1) C dc_H_interruptAlive_25 th_c_1 ?_
    refine tq_putZ C dc_H_interruptAlive_26 cl_6 fd_H_179 rfl (show i < 5 from by omega) rfl rfl rfl rfl ?_
    refine th_gen (P := fun J => th_Inv K sl Z J ∧ J = th_u I18 6 i 12 ((1 : Int32))) ⟨th_put hI18 (by decide) trivial, rfl⟩ (fun I19 hI19 => ?_)
    obtain ⟨hI19, u19⟩ := hI19
    have e19 : (1 : Int32) = I19 6 i 12 := by rw [u19, th_u_eq]
    have g19 : 1 = (I19 6 i 12).toInt := by rw [← e19]; exact th_l_1.symm
    refine th_aload_n C dc_H_interruptAlive_29 rfl rfl ?_
    refine th_aload_n C dc_H_interruptAlive_30 rfl rfl ?_
    refine th_aload_n C dc_H_interruptAlive_31 rfl rfl ?_
    refine tq_getI C dc_H_interruptAlive_32 cl_6 fd_H_288 rfl (show i < 5 from by omega) (fun x20 e20 => ?_)
    have g20 : x20.toInt = (I19 6 i 14).toInt := by rw [e20]
    have r20 : 0 ≤ x20.toInt ∧ x20.toInt ≤ 2 := by rw [e20]; exact hI19.1 6 i 14
    refine th_aload_n C dc_H_interruptAlive_35 rfl rfl ?_
    refine tq_getI C dc_H_interruptAlive_36 cl_6 fd_H_273 rfl (show i < 5 from by omega) (fun x21 e21 => ?_)
    have g21 : x21.toInt = (I19 6 i 15).toInt := by rw [e21]
    refine tq_callVv C (c_H_goFor l hl I19 i x20 x21 hI19 (by omega) (by omega)) ok_H_216 cl_0 (show 0 < 1 from by omega) rfl (Nat.le_of_ble_eq_true rfl) dc_H_interruptAlive_39 rfl (fun I22 p22 => ?_)
    obtain ⟨hI22, p22⟩ := p22
    refine th_goto (tgt := 97) C dc_H_interruptAlive_42 (by decide) ?_
    exact th_vret C hQ dc_H_interruptAlive_97 (by decide) (by decide) ⟨_, rfl, rfl, hI22, trivial⟩

