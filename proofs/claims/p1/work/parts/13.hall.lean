set_option maxRecDepth 100000 in
set_option maxHeartbeats 4000000 in
theorem p_H_nextReady (l : Launch) (hl : l.stackTraces = false) : th_F l yn_H_nextReady cb_H_nextReady 3 (some .int) { frames := 0, cells := 0, slots := 0, locals := 0 } [.inr (some (0, 0))] (th_m th_I0) (th_rp th_I0 (fun x => x.toInt = -1)) := by
  refine th_of hl (by decide +kernel) (Nat.le_of_ble_eq_true rfl) (fun z C hQ hN => ?_)
  show th_G l z 3 0 [(0, .inr (some (0, 0)))] [] (th_m th_I0) 0 0
  refine th_iconst (v := 1) C dc_H_nextReady_0 th_c_1 ?_
  refine th_istore_n (lv' := [(0, .inr (some (0, 0))), (1, .inl ((1 : Int32)))]) C dc_H_nextReady_1 rfl (by decide) rfl ?_
  have L2 : ∀ (N : Nat) (k : Int32), (1 ≤ k.toInt ∧ k.toInt ≤ 6) → (6 - k.toInt).toNat < N → th_G l z 3 2 [(0, .inr (some (0, 0))), (1, .inl k)] [] (th_m th_I0) 0 0 := by
    intro N
    induction N with
    | zero => intro k h1 hm; exact absurd hm (Nat.not_lt_zero _)
    | succ N ih =>
      intro k h1 hm
      refine th_iload_n C dc_H_nextReady_2 rfl rfl ?_
      refine th_iconst (v := 5) C dc_H_nextReady_3 th_c_5 ?_
      refine tq_icmp_gt (tgt := 37) C dc_H_nextReady_4 (by decide) rfl th_l_5 (fun c2 => ?_) (fun c2 => ?_)
      · refine th_iconst (v := -1) C dc_H_nextReady_37 th_c_m1 ?_
        exact th_iret C hQ dc_H_nextReady_38 (by decide) (by decide) ⟨_, rfl, rfl, (by have := th_l_m1; first | omega | (dsimp only; omega))⟩
      · refine th_aload_n C dc_H_nextReady_7 rfl rfl ?_
        have e3 : (-1 : Int32) = th_I0 0 0 7 := rfl
        refine tq_getIe C dc_H_nextReady_8 cl_0 fd_H_43 rfl (show 0 < 1 from by omega) e3 ?_
        refine th_iload_n C dc_H_nextReady_11 rfl rfl ?_
        refine tq_iadd C dc_H_nextReady_12 th_l_m1 rfl (fun x4 e4 a4 => ?_)
        refine th_iconst (v := 5) C dc_H_nextReady_13 th_c_5 ?_
        refine th_irem C dc_H_nextReady_14 (by decide) ?_
        obtain ⟨x5, e5⟩ : ∃ r : Int32, r = x4 - x4 / (5 : Int32) * (5 : Int32) := ⟨_, rfl⟩
        rw [← e5]
        have a5 := th_rem5 (x := x4) (by omega) (by omega)
        rw [← e5] at a5
        refine th_istore_n (lv' := [(0, .inr (some (0, 0))), (1, .inl k), (2, .inl x5)]) C dc_H_nextReady_15 rfl (by decide) rfl ?_
        refine th_aload_n C dc_H_nextReady_16 rfl rfl ?_
        refine tq_getR C dc_H_nextReady_17 cl_0 fd_H_11 rfl (show 0 < 1 from by omega) rfl ?_
        refine th_iload_n C dc_H_nextReady_20 rfl rfl ?_
        obtain ⟨n6, m6⟩ := th_nat (a := x5.toInt) (by omega)
        refine tq_aaldN C dc_H_nextReady_21 rfl (fun _ => rfl) (show 0 < 1 from by omega) rfl m6 (show n6 < 5 from by omega) (fun _ => rfl) ?_
        have e7 : (0 : Int32) = th_I0 6 n6 5 := rfl
        refine tq_getIe C dc_H_nextReady_22 cl_6 fd_H_106 rfl (show n6 < 5 from by omega) e7 ?_
        refine th_iconst (v := 1) C dc_H_nextReady_25 th_c_1 ?_
        refine tq_icmp_ne (tgt := 31) C dc_H_nextReady_26 (by decide) th_l_0 th_l_1 (fun c8 => ?_) (fun c8 => ?_)
        · refine tq_iinc (lv' := fun rr => [(0, .inr (some (0, 0))), (1, .inl rr), (2, .inl x5)]) C dc_H_nextReady_31 rfl (by decide) th_c_1 rfl th_l_1 (fun rr => rfl) (fun x9 e9 a9 => ?_)
          refine th_goto (tgt := 2) C dc_H_nextReady_34 (by decide) ?_
          refine th_sub C (lv' := [(0, .inr (some (0, 0))), (1, .inl x9)]) (fun q hq => by simp at hq ⊢; rcases hq with rfl | rfl <;> simp) ?_
          exact ih x9 (by omega) (by omega)
        · exact absurd c8 (by decide)
  exact L2 _ ((1 : Int32)) (by have := th_l_1; omega) (Nat.lt_succ_self _)

set_option maxRecDepth 100000 in
set_option maxHeartbeats 4000000 in
theorem p_H_aliveCount (l : Launch) (hl : l.stackTraces = false) : th_F l yn_H_aliveCount cb_H_aliveCount 3 (some .int) { frames := 1, cells := 0, slots := 0, locals := 20 } [.inr (some (0, 0))] (th_m th_I0) (th_rp th_I0 (fun x => x.toInt = 0)) := by
  refine th_of hl (by decide +kernel) (Nat.le_of_ble_eq_true rfl) (fun z C hQ hN => ?_)
  show th_G l z 3 0 [(0, .inr (some (0, 0)))] [] (th_m th_I0) 0 0
  refine th_iconst (v := 0) C dc_H_aliveCount_0 th_c_0 ?_
  refine th_istore_n (lv' := [(0, .inr (some (0, 0))), (1, .inl ((0 : Int32)))]) C dc_H_aliveCount_1 rfl (by decide) rfl ?_
  refine th_iconst (v := 0) C dc_H_aliveCount_2 th_c_0 ?_
  refine th_istore_n (lv' := [(0, .inr (some (0, 0))), (1, .inl ((0 : Int32))), (2, .inl ((0 : Int32)))]) C dc_H_aliveCount_3 rfl (by decide) rfl ?_
  have L4 : ∀ (N : Nat) (k : Int32), (0 ≤ k.toInt ∧ k.toInt ≤ 5) → (5 - k.toInt).toNat < N → th_G l z 3 4 [(0, .inr (some (0, 0))), (1, .inl ((0 : Int32))), (2, .inl k)] [] (th_m th_I0) 0 0 := by
    intro N
    induction N with
    | zero => intro k h1 hm; exact absurd hm (Nat.not_lt_zero _)
    | succ N ih =>
      intro k h1 hm
      refine th_iload_n C dc_H_aliveCount_4 rfl rfl ?_
      refine th_iconst (v := 5) C dc_H_aliveCount_5 th_c_5 ?_
      refine tq_icmp_ge (tgt := 30) C dc_H_aliveCount_6 (by decide) rfl th_l_5 (fun c2 => ?_) (fun c2 => ?_)
      · refine th_iload_n C dc_H_aliveCount_30 rfl rfl ?_
        exact th_iret C hQ dc_H_aliveCount_31 (by decide) (by decide) ⟨_, rfl, rfl, (by have := th_l_0; first | omega | (dsimp only; omega))⟩
      · refine th_aload_n C dc_H_aliveCount_9 rfl rfl ?_
        refine tq_getR C dc_H_aliveCount_10 cl_0 fd_H_11 rfl (show 0 < 1 from by omega) rfl ?_
        refine th_iload_n C dc_H_aliveCount_13 rfl rfl ?_
        obtain ⟨n3, m3⟩ := th_nat (a := k.toInt) (by omega)
        refine tq_aaldN C dc_H_aliveCount_14 rfl (fun _ => rfl) (show 0 < 1 from by omega) rfl m3 (show n3 < 5 from by omega) (fun _ => rfl) ?_
        refine tq_callVp C (c_S_isAlive l hl th_I0 n3 (by omega)) ok_H_79 cl_6 (show n3 < 5 from by omega) rfl (by decide) dc_H_aliveCount_15 rfl (fun x4 p4 => ?_)
        have zz4 : (th_I0 6 n3 5).toInt = 0 := th_l_0
        refine tq_if_eq (tgt := 24) C dc_H_aliveCount_18 (by decide) rfl (fun c5 => ?_) (fun c5 => ?_)
        · refine tq_iinc (lv' := fun rr => [(0, .inr (some (0, 0))), (1, .inl ((0 : Int32))), (2, .inl rr)]) C dc_H_aliveCount_24 rfl (by decide) th_c_1 rfl th_l_1 (fun rr => rfl) (fun x6 e6 a6 => ?_)
          refine th_goto (tgt := 4) C dc_H_aliveCount_27 (by decide) ?_
          exact ih x6 (by omega) (by omega)
        · exact absurd c5 (by omega)
  exact L4 _ ((0 : Int32)) (by have := th_l_0; omega) (Nat.lt_succ_self _)

set_option maxRecDepth 100000 in
set_option maxHeartbeats 4000000 in
theorem p_H_readyCount (l : Launch) (hl : l.stackTraces = false) : th_F l yn_H_readyCount cb_H_readyCount 3 (some .int) { frames := 0, cells := 0, slots := 0, locals := 0 } [.inr (some (0, 0))] (th_m th_I0) (th_rp th_I0 (fun x => x.toInt = 0)) := by
  refine th_of hl (by decide +kernel) (Nat.le_of_ble_eq_true rfl) (fun z C hQ hN => ?_)
  show th_G l z 3 0 [(0, .inr (some (0, 0)))] [] (th_m th_I0) 0 0
  refine th_iconst (v := 0) C dc_H_readyCount_0 th_c_0 ?_
  refine th_istore_n (lv' := [(0, .inr (some (0, 0))), (1, .inl ((0 : Int32)))]) C dc_H_readyCount_1 rfl (by decide) rfl ?_
  refine th_iconst (v := 0) C dc_H_readyCount_2 th_c_0 ?_
  refine th_istore_n (lv' := [(0, .inr (some (0, 0))), (1, .inl ((0 : Int32))), (2, .inl ((0 : Int32)))]) C dc_H_readyCount_3 rfl (by decide) rfl ?_
  have L4 : ∀ (N : Nat) (k : Int32), (0 ≤ k.toInt ∧ k.toInt ≤ 5) → (5 - k.toInt).toNat < N → th_G l z 3 4 [(0, .inr (some (0, 0))), (1, .inl ((0 : Int32))), (2, .inl k)] [] (th_m th_I0) 0 0 := by
    intro N
    induction N with
    | zero => intro k h1 hm; exact absurd hm (Nat.not_lt_zero _)
    | succ N ih =>
      intro k h1 hm
      refine th_iload_n C dc_H_readyCount_4 rfl rfl ?_
      refine th_iconst (v := 5) C dc_H_readyCount_5 th_c_5 ?_
      refine tq_icmp_ge (tgt := 31) C dc_H_readyCount_6 (by decide) rfl th_l_5 (fun c2 => ?_) (fun c2 => ?_)
      · refine th_iload_n C dc_H_readyCount_31 rfl rfl ?_
        exact th_iret C hQ dc_H_readyCount_32 (by decide) (by decide) ⟨_, rfl, rfl, (by have := th_l_0; first | omega | (dsimp only; omega))⟩
      · refine th_aload_n C dc_H_readyCount_9 rfl rfl ?_
        refine tq_getR C dc_H_readyCount_10 cl_0 fd_H_11 rfl (show 0 < 1 from by omega) rfl ?_
        refine th_iload_n C dc_H_readyCount_13 rfl rfl ?_
        obtain ⟨n3, m3⟩ := th_nat (a := k.toInt) (by omega)
        refine tq_aaldN C dc_H_readyCount_14 rfl (fun _ => rfl) (show 0 < 1 from by omega) rfl m3 (show n3 < 5 from by omega) (fun _ => rfl) ?_
        have e4 : (0 : Int32) = th_I0 6 n3 5 := rfl
        refine tq_getIe C dc_H_readyCount_15 cl_6 fd_H_106 rfl (show n3 < 5 from by omega) e4 ?_
        refine th_iconst (v := 1) C dc_H_readyCount_18 th_c_1 ?_
        refine tq_icmp_ne (tgt := 25) C dc_H_readyCount_19 (by decide) th_l_0 th_l_1 (fun c5 => ?_) (fun c5 => ?_)
        · refine tq_iinc (lv' := fun rr => [(0, .inr (some (0, 0))), (1, .inl ((0 : Int32))), (2, .inl rr)]) C dc_H_readyCount_25 rfl (by decide) th_c_1 rfl th_l_1 (fun rr => rfl) (fun x6 e6 a6 => ?_)
          refine th_goto (tgt := 4) C dc_H_readyCount_28 (by decide) ?_
          exact ih x6 (by omega) (by omega)
        · exact absurd c5 (by decide)
  exact L4 _ ((0 : Int32)) (by have := th_l_0; omega) (Nat.lt_succ_self _)

set_option maxRecDepth 100000 in
set_option maxHeartbeats 4000000 in
theorem p_H_read (l : Launch) (hl : l.stackTraces = false) (i : Nat) (s : Int32) (hi : i < 5) (hs : 0 ≤ s.toInt ∧ s.toInt ≤ 3) : th_F l yn_H_read cb_H_read 4 (some .int) { frames := 1, cells := 0, slots := 0, locals := 22 } [.inr (some (0, 0)), .inr (some (6, i)), .inl s] (th_m th_I0) (th_rp th_I0 (fun x => x.toInt = 0)) := by
  refine th_of hl (by decide +kernel) (Nat.le_of_ble_eq_true rfl) (fun z C hQ hN => ?_)
  show th_G l z 4 0 [(0, .inr (some (0, 0))), (1, .inr (some (6, i))), (2, .inl s)] [] (th_m th_I0) 0 0
  refine th_aload_n C dc_H_read_0 rfl rfl ?_
  refine tq_getR C dc_H_read_1 cl_6 fd_H_115 rfl (show i < 5 from by omega) rfl ?_
  refine th_iload_n C dc_H_read_4 rfl rfl ?_
  refine tq_callVp C (c_Q_latest l hl th_I0 (2 * i) s hth_I0 (by omega)) ok_H_251 cl_11 (show 2 * i < 10 from by omega) rfl (by decide) dc_H_read_5 rfl (fun x1 p1 => ?_)
  have zz1 : (th_I0 11 (2 * i) 2).toInt = 0 := th_l_0
  refine th_istore_n (lv' := [(0, .inr (some (0, 0))), (1, .inr (some (6, i))), (2, .inl s), (3, .inl x1)]) C dc_H_read_8 rfl (by decide) rfl ?_
  refine th_iload_n C dc_H_read_9 rfl rfl ?_
  refine th_iconst (v := -1) C dc_H_read_10 th_c_m1 ?_
  refine tq_icmp_ne (tgt := 23) C dc_H_read_11 (by decide) rfl th_l_m1 (fun c2 => ?_) (fun c2 => ?_)
  · exact absurd c2 (by omega)
  · refine th_aload_n C dc_H_read_14 rfl rfl ?_
    refine tq_getR C dc_H_read_15 cl_0 fd_H_32 rfl (show 0 < 1 from by omega) rfl ?_
    refine th_iload_n C dc_H_read_18 rfl rfl ?_
    obtain ⟨n4, m4⟩ := th_nat (a := s.toInt) (by omega)
    have e3 : (0 : Int32) = th_I0 4 0 n4 := rfl
    refine tq_ialdE C dc_H_read_19 rfl (fun _ => rfl) (show 0 < 1 from by omega) rfl m4 (show n4 < 4 from by omega) e3 ?_
    refine th_goto (tgt := 32) C dc_H_read_20 (by decide) ?_
    exact th_iret C hQ dc_H_read_32 (by decide) (by decide) ⟨_, rfl, rfl, (by have := th_l_0; first | omega | (dsimp only; omega))⟩

set_option maxRecDepth 100000 in
set_option maxHeartbeats 4000000 in
theorem p_H_add (l : Launch) (hl : l.stackTraces = false) (t : Int32) (o : Int32) (a : Int32) (b : Int32) : th_F l yn_H_add cb_H_add 6 (some .int) { frames := 9, cells := 6, slots := 36, locals := 153 } [.inr (some (0, 0)), .inl t, .inl o, .inl a, .inl b] (th_m th_I0) (th_rm (fun x J => ((0 ≤ t.toInt ∧ t.toInt ≤ 4 ∧ th_valid o.toInt a.toInt b.toInt) ∧ x.toInt = 1) ∧ ∀ t i k, 17 ≤ t → J t i k = th_I0 t i k) (fun E J => (E = th_IAE ∧ ¬ (0 ≤ t.toInt ∧ t.toInt ≤ 4 ∧ th_valid o.toInt a.toInt b.toInt)) ∧ ∀ t i k, 17 ≤ t → J t i k = th_I0 t i k)) := by
  refine th_of hl (by decide +kernel) (Nat.le_of_ble_eq_true rfl) (fun z C hQ hN => ?_)
  show th_G l z 6 0 [(0, .inr (some (0, 0))), (1, .inl t), (2, .inl o), (3, .inl a), (4, .inl b)] [] (th_m th_I0) 0 0
  refine th_iload_n C dc_H_add_0 rfl rfl ?_
  refine th_iconst (v := 5) C dc_H_add_1 th_c_5 ?_
  refine tq_callSt C (c_H_requireBelow l hl th_I0 t ((5 : Int32)) (by have := th_l_5; omega)) ok_H_46 rfl (by decide) dc_H_add_2 rfl (fun E pE => th_outX C hQ (fun _ h => nomatch h) (by decide) (by decide) (Or.inr ⟨E, _, rfl, rfl, ⟨pE.1, fun q => by have := th_l_5; omega⟩, fun _ _ _ _ => rfl⟩)) (fun p1 => ?_)
  try simp only [th_l_5] at p1
  refine th_iload_n C dc_H_add_5 rfl rfl ?_
  refine th_gets (q := th_s91) C dc_H_add_6 th_s91_in sl_H_50 ?_
  refine th_slen (q := th_s91) (v := 21) C dc_H_add_9 th_s91_in rfl ?_
  refine tq_callSt C (c_H_requireBelow l hl th_I0 o ((21 : Int32)) (by have := th_l_21; omega)) ok_H_46 rfl (by decide) dc_H_add_10 rfl (fun E pE => th_outX C hQ (fun _ h => nomatch h) (by decide) (by decide) (Or.inr ⟨E, _, rfl, rfl, ⟨pE.1, fun q => by have := th_l_21; have := q.2.2.1; omega⟩, fun _ _ _ _ => rfl⟩)) (fun p2 => ?_)
  try simp only [th_l_21] at p2
  refine th_iload_n C dc_H_add_13 rfl rfl ?_
  refine th_gets (q := th_s91) C dc_H_add_14 th_s91_in sl_H_50 ?_
  refine th_iload_n C dc_H_add_17 rfl rfl ?_
  refine th_sld (q := th_s91) C dc_H_add_18 th_s91_in rfl (by omega) (show o.toInt < ((21 : Nat) : Int) from by omega) (fun n3 x3 m3 q3 e3 => ?_)
  have q3 : n3 < 21 := q3
  refine tq_callSt C (c_H_requireOperand l hl th_I0 a x3) ok_H_53 rfl (by decide) dc_H_add_19 rfl (fun E pE => th_outX C hQ (fun _ h => nomatch h) (by decide) (by decide) (Or.inr ⟨E, _, rfl, rfl, ⟨pE.1, fun q => absurd (th_val_a (by omega) m3 e3 q.2.2 (by omega)) (by omega)⟩, fun _ _ _ _ => rfl⟩)) (fun p4 => ?_)
  refine th_iload C dc_H_add_22 rfl ?_
  refine th_gets (q := th_s92) C dc_H_add_24 th_s92_in sl_H_56 ?_
  refine th_iload_n C dc_H_add_27 rfl rfl ?_
  refine th_sld (q := th_s92) C dc_H_add_28 th_s92_in rfl (by omega) (show o.toInt < ((21 : Nat) : Int) from by omega) (fun n5 x5 m5 q5 e5 => ?_)
  have q5 : n5 < 21 := q5
  refine tq_callSt C (c_H_requireOperand l hl th_I0 b x5) ok_H_53 rfl (by decide) dc_H_add_29 rfl (fun E pE => th_outX C hQ (fun _ h => nomatch h) (by decide) (by decide) (Or.inr ⟨E, _, rfl, rfl, ⟨pE.1, fun q => absurd (th_val_b (by omega) m5 e5 q.2.2 (by omega)) (by omega)⟩, fun _ _ _ _ => rfl⟩)) (fun p6 => ?_)
  refine th_aload_n C dc_H_add_32 rfl rfl ?_
  refine tq_getR C dc_H_add_33 cl_0 fd_H_11 rfl (show 0 < 1 from by omega) rfl ?_
  refine th_iload_n C dc_H_add_36 rfl rfl ?_
  obtain ⟨n7, m7⟩ := th_nat (a := t.toInt) (by omega)
  refine tq_aaldN C dc_H_add_37 rfl (fun _ => rfl) (show 0 < 1 from by omega) rfl m7 (show n7 < 5 from by omega) (fun _ => rfl) ?_
  refine tq_callSt C (c_H_requireNotAlive l hl th_I0 n7 (by omega)) ok_H_59 rfl (by decide) dc_H_add_38 rfl (fun E pE => absurd (show (th_I0 6 n7 5).toInt = 0 from th_l_0) pE.2.1) (fun p8 => ?_)
  have zz8 : (th_I0 6 n7 5).toInt = 0 := th_l_0
  refine th_aload_n C dc_H_add_41 rfl rfl ?_
  refine tq_getR C dc_H_add_42 cl_0 fd_H_11 rfl (show 0 < 1 from by omega) rfl ?_
  refine th_iload_n C dc_H_add_45 rfl rfl ?_
  refine tq_aaldN C dc_H_add_46 rfl (fun _ => rfl) (show 0 < 1 from by omega) rfl m7 (show n7 < 5 from by omega) (fun _ => rfl) ?_
  refine tq_getR C dc_H_add_47 cl_6 fd_H_63 rfl (show n7 < 5 from by omega) rfl ?_
  refine th_astore (lv' := [(0, .inr (some (0, 0))), (1, .inl t), (2, .inl o), (3, .inl a), (4, .inl b), (5, .inr (some (7, n7)))]) C dc_H_add_50 (by decide) rfl ?_
  refine th_aload C dc_H_add_52 rfl ?_
  have e9 : (0 : Int32) = th_I0 7 n7 3 := rfl
  refine tq_getIe C dc_H_add_54 cl_7 fd_H_67 rfl (show n7 < 5 from by omega) e9 ?_
  refine th_bipush (v := 24) C dc_H_add_57 th_b_24 ?_
  refine tq_icmp_lt (tgt := 70) C dc_H_add_59 (by decide) th_l_0 th_l_24 (fun c10 => ?_) (fun c10 => ?_)
  · refine th_aload C dc_H_add_70 rfl ?_
    refine th_iload_n C dc_H_add_72 rfl rfl ?_
    refine th_iload_n C dc_H_add_73 rfl rfl ?_
    refine th_iload C dc_H_add_74 rfl ?_
    refine tq_callVv C (c_P_append l hl th_I0 n7 o a b hth_I0 (by omega) (th_val_of (by omega) (by omega) m3 e3 m5 e5 p4 p6)) ok_H_75 cl_7 (show n7 < 5 from by omega) rfl (by decide) dc_H_add_76 rfl (fun I11 p11 => ?_)
    obtain ⟨hI11, p11⟩ := p11
    have zz11 : (th_I0 7 n7 3).toInt = 0 := th_l_0
    refine th_aload C dc_H_add_79 rfl ?_
    refine tq_getI C dc_H_add_81 cl_7 fd_H_67 rfl (show n7 < 5 from by omega) (fun x12 e12 => ?_)
    have g12 : x12.toInt = (I11 7 n7 3).toInt := by rw [e12]
    exact th_iret C hQ dc_H_add_84 (by decide) (by decide) (Or.inl ⟨_, _, rfl, rfl, ⟨⟨by omega, by omega, th_val_of (by omega) (by omega) m3 e3 m5 e5 p4 p6⟩, by first | omega | (dsimp only; omega)⟩, hI11.2.2.2⟩)
  · exact absurd c10 (by decide)

set_option maxRecDepth 100000 in
set_option maxHeartbeats 4000000 in
theorem p_H_clear (l : Launch) (hl : l.stackTraces = false) (t : Int32) : th_F l yn_H_clear cb_H_clear 3 (some .int) { frames := 8, cells := 2, slots := 12, locals := 132 } [.inr (some (0, 0)), .inl t] (th_m th_I0) (th_rm (fun x J => ((0 ≤ t.toInt ∧ t.toInt ≤ 4) ∧ x.toInt = 0) ∧ ∀ t i k, 17 ≤ t → J t i k = th_I0 t i k) (fun E J => (E = th_IAE ∧ ¬ (0 ≤ t.toInt ∧ t.toInt ≤ 4)) ∧ ∀ t i k, 17 ≤ t → J t i k = th_I0 t i k)) := by
  refine th_of hl (by decide +kernel) (Nat.le_of_ble_eq_true rfl) (fun z C hQ hN => ?_)
  show th_G l z 3 0 [(0, .inr (some (0, 0))), (1, .inl t)] [] (th_m th_I0) 0 0
  refine th_iload_n C dc_H_clear_0 rfl rfl ?_
  refine th_iconst (v := 5) C dc_H_clear_1 th_c_5 ?_
  refine tq_callSt C (c_H_requireBelow l hl th_I0 t ((5 : Int32)) (by have := th_l_5; omega)) ok_H_46 rfl (by decide) dc_H_clear_2 rfl (fun E pE => th_outX C hQ (fun _ h => nomatch h) (by decide) (by decide) (Or.inr ⟨E, _, rfl, rfl, ⟨pE.1, fun q => by have := th_l_5; omega⟩, fun _ _ _ _ => rfl⟩)) (fun p1 => ?_)
  try simp only [th_l_5] at p1
  refine th_aload_n C dc_H_clear_5 rfl rfl ?_
  refine tq_getR C dc_H_clear_6 cl_0 fd_H_11 rfl (show 0 < 1 from by omega) rfl ?_
  refine th_iload_n C dc_H_clear_9 rfl rfl ?_
  obtain ⟨n2, m2⟩ := th_nat (a := t.toInt) (by omega)
  refine tq_aaldN C dc_H_clear_10 rfl (fun _ => rfl) (show 0 < 1 from by omega) rfl m2 (show n2 < 5 from by omega) (fun _ => rfl) ?_
  refine tq_callSt C (c_H_requireNotAlive l hl th_I0 n2 (by omega)) ok_H_59 rfl (by decide) dc_H_clear_11 rfl (fun E pE => absurd (show (th_I0 6 n2 5).toInt = 0 from th_l_0) pE.2.1) (fun p3 => ?_)
  have zz3 : (th_I0 6 n2 5).toInt = 0 := th_l_0
  refine th_aload_n C dc_H_clear_14 rfl rfl ?_
  refine tq_getR C dc_H_clear_15 cl_0 fd_H_11 rfl (show 0 < 1 from by omega) rfl ?_
  refine th_iload_n C dc_H_clear_18 rfl rfl ?_
  refine tq_aaldN C dc_H_clear_19 rfl (fun _ => rfl) (show 0 < 1 from by omega) rfl m2 (show n2 < 5 from by omega) (fun _ => rfl) ?_
  refine tq_getR C dc_H_clear_20 cl_6 fd_H_63 rfl (show n2 < 5 from by omega) rfl ?_
  have e4 : (0 : Int32) = th_I0 7 n2 3 := rfl
  refine tq_getIe C dc_H_clear_23 cl_7 fd_H_67 rfl (show n2 < 5 from by omega) e4 ?_
  refine th_istore_n (lv' := [(0, .inr (some (0, 0))), (1, .inl t), (2, .inl ((0 : Int32)))]) C dc_H_clear_26 rfl (by decide) rfl ?_
  refine th_aload_n C dc_H_clear_27 rfl rfl ?_
  refine tq_getR C dc_H_clear_28 cl_0 fd_H_11 rfl (show 0 < 1 from by omega) rfl ?_
  refine th_iload_n C dc_H_clear_31 rfl rfl ?_
  refine tq_aaldN C dc_H_clear_32 rfl (fun _ => rfl) (show 0 < 1 from by omega) rfl m2 (show n2 < 5 from by omega) (fun _ => rfl) ?_
  refine tq_getR C dc_H_clear_33 cl_6 fd_H_63 rfl (show n2 < 5 from by omega) rfl ?_
  refine th_iconst (v := 0) C dc_H_clear_36 th_c_0 ?_
  refine tq_putI C dc_H_clear_37 cl_7 fd_H_67 rfl (show n2 < 5 from by omega) rfl rfl ?_
  refine th_gen (P := fun J => J = th_u th_I0 7 n2 3 ((0 : Int32))) rfl (fun I5 u5 => ?_)
  have e5 : (0 : Int32) = I5 7 n2 3 := by rw [u5, th_u_eq]
  have g5 : 0 = (I5 7 n2 3).toInt := by rw [← e5]; exact th_l_0.symm
  refine th_iload_n C dc_H_clear_40 rfl rfl ?_
  exact th_iret C hQ dc_H_clear_41 (by decide) (by decide) (Or.inl ⟨_, _, rfl, rfl, ⟨by omega, by have := th_l_0; first | omega | (dsimp only; omega)⟩, fun t i k q => by rw [u5, th_u_tag (by omega)]⟩)

set_option maxRecDepth 100000 in
set_option maxHeartbeats 4000000 in
theorem p_H_start (l : Launch) (hl : l.stackTraces = false) (t : Int32) : th_F l yn_H_start cb_H_start 2 (some .int) { frames := 8, cells := 1, slots := 6, locals := 132 } [.inr (some (0, 0)), .inl t] (th_m th_I0) (th_rm (fun x J => ((0 ≤ t.toInt ∧ t.toInt ≤ 4) ∧ x.toInt = 1) ∧ ∀ t i k, 17 ≤ t → J t i k = th_I0 t i k) (fun E J => (E = th_IAE ∧ ¬ (0 ≤ t.toInt ∧ t.toInt ≤ 4)) ∧ ∀ t i k, 17 ≤ t → J t i k = th_I0 t i k)) := by
  refine th_of hl (by decide +kernel) (Nat.le_of_ble_eq_true rfl) (fun z C hQ hN => ?_)
  show th_G l z 2 0 [(0, .inr (some (0, 0))), (1, .inl t)] [] (th_m th_I0) 0 0
  refine th_iload_n C dc_H_start_0 rfl rfl ?_
  refine th_iconst (v := 5) C dc_H_start_1 th_c_5 ?_
  refine tq_callSt C (c_H_requireBelow l hl th_I0 t ((5 : Int32)) (by have := th_l_5; omega)) ok_H_46 rfl (by decide) dc_H_start_2 rfl (fun E pE => th_outX C hQ (fun _ h => nomatch h) (by decide) (by decide) (Or.inr ⟨E, _, rfl, rfl, ⟨pE.1, fun q => by have := th_l_5; omega⟩, fun _ _ _ _ => rfl⟩)) (fun p1 => ?_)
  try simp only [th_l_5] at p1
  refine th_aload_n C dc_H_start_5 rfl rfl ?_
  refine tq_getR C dc_H_start_6 cl_0 fd_H_11 rfl (show 0 < 1 from by omega) rfl ?_
  refine th_iload_n C dc_H_start_9 rfl rfl ?_
  obtain ⟨n2, m2⟩ := th_nat (a := t.toInt) (by omega)
  refine tq_aaldN C dc_H_start_10 rfl (fun _ => rfl) (show 0 < 1 from by omega) rfl m2 (show n2 < 5 from by omega) (fun _ => rfl) ?_
  refine tq_callVp C (c_S_isAlive l hl th_I0 n2 (by omega)) ok_H_79 cl_6 (show n2 < 5 from by omega) rfl (by decide) dc_H_start_11 rfl (fun x3 p3 => ?_)
  have zz3 : (th_I0 6 n2 5).toInt = 0 := th_l_0
  refine tq_if_eq (tgt := 19) C dc_H_start_14 (by decide) rfl (fun c4 => ?_) (fun c4 => ?_)
  · refine th_aload_n C dc_H_start_19 rfl rfl ?_
    refine tq_getR C dc_H_start_20 cl_0 fd_H_11 rfl (show 0 < 1 from by omega) rfl ?_
    refine th_iload_n C dc_H_start_23 rfl rfl ?_
    refine tq_aaldN C dc_H_start_24 rfl (fun _ => rfl) (show 0 < 1 from by omega) rfl m2 (show n2 < 5 from by omega) (fun _ => rfl) ?_
    refine tq_callVv C (c_S_beginAnew l hl th_I0 n2 hth_I0 (by omega)) ok_H_83 cl_6 (show n2 < 5 from by omega) rfl (by decide) dc_H_start_25 rfl (fun I5 p5 => ?_)
    obtain ⟨hI5, p5⟩ := p5
    refine th_iconst (v := 1) C dc_H_start_28 th_c_1 ?_
    exact th_iret C hQ dc_H_start_29 (by decide) (by decide) (Or.inl ⟨_, _, rfl, rfl, ⟨by omega, by have := th_l_1; first | omega | (dsimp only; omega)⟩, hI5.2.2.2⟩)
  · exact absurd c4 (by omega)

set_option maxRecDepth 100000 in
set_option maxHeartbeats 4000000 in
theorem p_H_run (l : Launch) (hl : l.stackTraces = false) (n : Int32) : th_F l yn_H_run cb_H_run 5 (some .int) { frames := 7, cells := 1, slots := 6, locals := 111 } [.inr (some (0, 0)), .inl n] (th_m th_I0) (th_rm (fun x J => ((1 ≤ n.toInt ∧ n.toInt ≤ 40) ∧ x.toInt = 0) ∧ ∀ t i k, 17 ≤ t → J t i k = th_I0 t i k) (fun E J => (E = th_IAE ∧ ¬ (1 ≤ n.toInt ∧ n.toInt ≤ 40)) ∧ ∀ t i k, 17 ≤ t → J t i k = th_I0 t i k)) := by
  refine th_of hl (by decide +kernel) (Nat.le_of_ble_eq_true rfl) (fun z C hQ hN => ?_)
  show th_G l z 5 0 [(0, .inr (some (0, 0))), (1, .inl n)] [] (th_m th_I0) 0 0
  refine th_iload_n C dc_H_run_0 rfl rfl ?_
  refine th_iconst (v := 1) C dc_H_run_1 th_c_1 ?_
  refine th_bipush (v := 40) C dc_H_run_2 th_b_40 ?_
  refine tq_callSt C (c_H_requireBetween l hl th_I0 n ((1 : Int32)) ((40 : Int32))) ok_H_86 rfl (by decide) dc_H_run_4 rfl (fun E pE => th_outX C hQ (fun _ h => nomatch h) (by decide) (by decide) (Or.inr ⟨E, _, rfl, rfl, ⟨pE.1, fun q => by have := th_l_1; have := th_l_40; omega⟩, fun _ _ _ _ => rfl⟩)) (fun p1 => ?_)
  try simp only [th_l_1, th_l_40] at p1
  refine th_aload_n C dc_H_run_7 rfl rfl ?_
  have e2 : (0 : Int32) = th_I0 0 0 9 := rfl
  refine tq_getIe C dc_H_run_8 cl_0 fd_H_89 rfl (show 0 < 1 from by omega) e2 ?_
  refine th_istore_n (lv' := [(0, .inr (some (0, 0))), (1, .inl n), (2, .inl ((0 : Int32)))]) C dc_H_run_11 rfl (by decide) rfl ?_
  refine th_iconst (v := 0) C dc_H_run_12 th_c_0 ?_
  refine th_istore_n (lv' := [(0, .inr (some (0, 0))), (1, .inl n), (2, .inl ((0 : Int32))), (3, .inl ((0 : Int32)))]) C dc_H_run_13 rfl (by decide) rfl ?_
  refine th_iload_n C dc_H_run_14 rfl rfl ?_
  refine th_iload_n C dc_H_run_15 rfl rfl ?_
  refine tq_icmp_ge (tgt := 51) C dc_H_run_16 (by decide) th_l_0 rfl (fun c3 => ?_) (fun c3 => ?_)
  · exact absurd c3 (by omega)
  · refine th_aload_n C dc_H_run_19 rfl rfl ?_
    refine tq_callVp C (p_H_nextReady l hl) ok_H_92 cl_0 (show 0 < 1 from by omega) rfl (by decide) dc_H_run_20 rfl (fun x4 p4 => ?_)
    refine th_istore (lv' := [(0, .inr (some (0, 0))), (1, .inl n), (2, .inl ((0 : Int32))), (3, .inl ((0 : Int32))), (4, .inl x4)]) C dc_H_run_23 (by decide) rfl ?_
    refine th_iload C dc_H_run_25 rfl ?_
    refine th_iconst (v := -1) C dc_H_run_27 th_c_m1 ?_
    refine tq_icmp_ne (tgt := 34) C dc_H_run_28 (by decide) rfl th_l_m1 (fun c5 => ?_) (fun c5 => ?_)
    · exact absurd c5 (by omega)
    · refine th_goto (tgt := 51) C dc_H_run_31 (by decide) ?_
      refine th_aload_n C dc_H_run_51 rfl rfl ?_
      refine tq_getIe C dc_H_run_52 cl_0 fd_H_89 rfl (show 0 < 1 from by omega) e2 ?_
      refine th_iload_n C dc_H_run_55 rfl rfl ?_
      refine tq_isub C dc_H_run_56 th_l_0 th_l_0 (fun x6 e6 a6 => ?_)
      exact th_iret C hQ dc_H_run_57 (by decide) (by decide) (Or.inl ⟨_, _, rfl, rfl, ⟨by omega, by first | omega | (dsimp only; omega)⟩, fun _ _ _ _ => rfl⟩)

set_option maxRecDepth 100000 in
set_option maxHeartbeats 4000000 in
theorem p_H_interrupt (l : Launch) (hl : l.stackTraces = false) (t : Int32) : th_F l yn_H_interrupt cb_H_interrupt 2 (some .int) { frames := 8, cells := 1, slots := 6, locals := 132 } [.inr (some (0, 0)), .inl t] (th_m th_I0) (th_rm (fun x J => ((0 ≤ t.toInt ∧ t.toInt ≤ 4) ∧ x.toInt = 0) ∧ ∀ t i k, 17 ≤ t → J t i k = th_I0 t i k) (fun E J => (E = th_IAE ∧ ¬ (0 ≤ t.toInt ∧ t.toInt ≤ 4)) ∧ ∀ t i k, 17 ≤ t → J t i k = th_I0 t i k)) := by
  refine th_of hl (by decide +kernel) (Nat.le_of_ble_eq_true rfl) (fun z C hQ hN => ?_)
  show th_G l z 2 0 [(0, .inr (some (0, 0))), (1, .inl t)] [] (th_m th_I0) 0 0
  refine th_iload_n C dc_H_interrupt_0 rfl rfl ?_
  refine th_iconst (v := 5) C dc_H_interrupt_1 th_c_5 ?_
  refine tq_callSt C (c_H_requireBelow l hl th_I0 t ((5 : Int32)) (by have := th_l_5; omega)) ok_H_46 rfl (by decide) dc_H_interrupt_2 rfl (fun E pE => th_outX C hQ (fun _ h => nomatch h) (by decide) (by decide) (Or.inr ⟨E, _, rfl, rfl, ⟨pE.1, fun q => by have := th_l_5; omega⟩, fun _ _ _ _ => rfl⟩)) (fun p1 => ?_)
  try simp only [th_l_5] at p1
  refine th_aload_n C dc_H_interrupt_5 rfl rfl ?_
  refine tq_getR C dc_H_interrupt_6 cl_0 fd_H_11 rfl (show 0 < 1 from by omega) rfl ?_
  refine th_iload_n C dc_H_interrupt_9 rfl rfl ?_
  obtain ⟨n2, m2⟩ := th_nat (a := t.toInt) (by omega)
  refine tq_aaldN C dc_H_interrupt_10 rfl (fun _ => rfl) (show 0 < 1 from by omega) rfl m2 (show n2 < 5 from by omega) (fun _ => rfl) ?_
  refine tq_callVp C (c_S_isAlive l hl th_I0 n2 (by omega)) ok_H_79 cl_6 (show n2 < 5 from by omega) rfl (by decide) dc_H_interrupt_11 rfl (fun x3 p3 => ?_)
  have zz3 : (th_I0 6 n2 5).toInt = 0 := th_l_0
  refine tq_if_ne (tgt := 19) C dc_H_interrupt_14 (by decide) rfl (fun c4 => ?_) (fun c4 => ?_)
  · exact absurd c4 (by omega)
  · refine th_iconst (v := 0) C dc_H_interrupt_17 th_c_0 ?_
    exact th_iret C hQ dc_H_interrupt_18 (by decide) (by decide) (Or.inl ⟨_, _, rfl, rfl, ⟨by omega, by have := th_l_0; first | omega | (dsimp only; omega)⟩, fun _ _ _ _ => rfl⟩)

set_option maxRecDepth 100000 in
set_option maxHeartbeats 4000000 in
theorem p_H_slice (l : Launch) (hl : l.stackTraces = false) (n : Int32) : th_F l yn_H_slice cb_H_slice 3 (some .int) { frames := 7, cells := 1, slots := 6, locals := 111 } [.inr (some (0, 0)), .inl n] (th_m th_I0) (th_rm (fun x J => ((1 ≤ n.toInt ∧ n.toInt ≤ 20) ∧ x.toInt = 4) ∧ ∀ t i k, 17 ≤ t → J t i k = th_I0 t i k) (fun E J => (E = th_IAE ∧ ¬ (1 ≤ n.toInt ∧ n.toInt ≤ 20)) ∧ ∀ t i k, 17 ≤ t → J t i k = th_I0 t i k)) := by
  refine th_of hl (by decide +kernel) (Nat.le_of_ble_eq_true rfl) (fun z C hQ hN => ?_)
  show th_G l z 3 0 [(0, .inr (some (0, 0))), (1, .inl n)] [] (th_m th_I0) 0 0
  refine th_iload_n C dc_H_slice_0 rfl rfl ?_
  refine th_iconst (v := 1) C dc_H_slice_1 th_c_1 ?_
  refine th_bipush (v := 20) C dc_H_slice_2 th_b_20 ?_
  refine tq_callSt C (c_H_requireBetween l hl th_I0 n ((1 : Int32)) ((20 : Int32))) ok_H_86 rfl (by decide) dc_H_slice_4 rfl (fun E pE => th_outX C hQ (fun _ h => nomatch h) (by decide) (by decide) (Or.inr ⟨E, _, rfl, rfl, ⟨pE.1, fun q => by have := th_l_1; have := th_l_20; omega⟩, fun _ _ _ _ => rfl⟩)) (fun p1 => ?_)
  try simp only [th_l_1, th_l_20] at p1
  refine th_aload_n C dc_H_slice_7 rfl rfl ?_
  have e2 : (4 : Int32) = th_I0 0 0 6 := rfl
  refine tq_getIe C dc_H_slice_8 cl_0 fd_H_39 rfl (show 0 < 1 from by omega) e2 ?_
  refine th_istore_n (lv' := [(0, .inr (some (0, 0))), (1, .inl n), (2, .inl ((4 : Int32)))]) C dc_H_slice_11 rfl (by decide) rfl ?_
  refine th_aload_n C dc_H_slice_12 rfl rfl ?_
  refine th_iload_n C dc_H_slice_13 rfl rfl ?_
  refine tq_putI C dc_H_slice_14 cl_0 fd_H_39 rfl (show 0 < 1 from by omega) rfl rfl ?_
  refine th_gen (P := fun J => J = th_u th_I0 0 0 6 n) rfl (fun I3 u3 => ?_)
  have e3 : n = I3 0 0 6 := by rw [u3, th_u_eq]
  have g3 : n.toInt = (I3 0 0 6).toInt := by rw [← e3]
  refine th_iload_n C dc_H_slice_17 rfl rfl ?_
  exact th_iret C hQ dc_H_slice_18 (by decide) (by decide) (Or.inl ⟨_, _, rfl, rfl, ⟨by omega, by have := th_l_4; first | omega | (dsimp only; omega)⟩, fun t i k q => by rw [u3, th_u_tag (by omega)]⟩)

set_option maxRecDepth 100000 in
set_option maxHeartbeats 4000000 in
theorem p_H_global (l : Launch) (hl : l.stackTraces = false) (s : Int32) (v : Int32) : th_F l yn_H_global cb_H_global 4 (some .int) { frames := 8, cells := 1, slots := 6, locals := 132 } [.inr (some (0, 0)), .inl s, .inl v] (th_m th_I0) (th_rm (fun x J => ((0 ≤ s.toInt ∧ s.toInt ≤ 3) ∧ x.toInt = 0) ∧ ∀ t i k, 17 ≤ t → J t i k = th_I0 t i k) (fun E J => (E = th_IAE ∧ ¬ (0 ≤ s.toInt ∧ s.toInt ≤ 3)) ∧ ∀ t i k, 17 ≤ t → J t i k = th_I0 t i k)) := by
  refine th_of hl (by decide +kernel) (Nat.le_of_ble_eq_true rfl) (fun z C hQ hN => ?_)
  show th_G l z 4 0 [(0, .inr (some (0, 0))), (1, .inl s), (2, .inl v)] [] (th_m th_I0) 0 0
  refine th_iload_n C dc_H_global_0 rfl rfl ?_
  refine th_iconst (v := 4) C dc_H_global_1 th_c_4 ?_
  refine tq_callSt C (c_H_requireBelow l hl th_I0 s ((4 : Int32)) (by have := th_l_4; omega)) ok_H_46 rfl (by decide) dc_H_global_2 rfl (fun E pE => th_outX C hQ (fun _ h => nomatch h) (by decide) (by decide) (Or.inr ⟨E, _, rfl, rfl, ⟨pE.1, fun q => by have := th_l_4; omega⟩, fun _ _ _ _ => rfl⟩)) (fun p1 => ?_)
  try simp only [th_l_4] at p1
  refine th_aload_n C dc_H_global_5 rfl rfl ?_
  refine tq_getR C dc_H_global_6 cl_0 fd_H_32 rfl (show 0 < 1 from by omega) rfl ?_
  refine th_iload_n C dc_H_global_9 rfl rfl ?_
  obtain ⟨n3, m3⟩ := th_nat (a := s.toInt) (by omega)
  have e2 : (0 : Int32) = th_I0 4 0 n3 := rfl
  refine tq_ialdE C dc_H_global_10 rfl (fun _ => rfl) (show 0 < 1 from by omega) rfl m3 (show n3 < 4 from by omega) e2 ?_
  refine th_istore_n (lv' := [(0, .inr (some (0, 0))), (1, .inl s), (2, .inl v), (3, .inl ((0 : Int32)))]) C dc_H_global_11 rfl (by decide) rfl ?_
  refine th_aload_n C dc_H_global_12 rfl rfl ?_
  refine tq_getR C dc_H_global_13 cl_0 fd_H_32 rfl (show 0 < 1 from by omega) rfl ?_
  refine th_iload_n C dc_H_global_16 rfl rfl ?_
  refine th_iload_n C dc_H_global_17 rfl rfl ?_
  refine tq_iastN C dc_H_global_18 rfl (fun _ => rfl) (show 0 < 1 from by omega) rfl m3 (show n3 < 4 from by omega) ?_
  refine th_gen (P := fun J => J = th_u th_I0 4 0 n3 v) rfl (fun I4 u4 => ?_)
  have e4 : v = I4 4 0 n3 := by rw [u4, th_u_eq]
  have g4 : v.toInt = (I4 4 0 n3).toInt := by rw [← e4]
  refine th_iload_n C dc_H_global_19 rfl rfl ?_
  exact th_iret C hQ dc_H_global_20 (by decide) (by decide) (Or.inl ⟨_, _, rfl, rfl, ⟨by omega, by have := th_l_0; first | omega | (dsimp only; omega)⟩, fun t i k q => by rw [u4, th_u_tag (by omega)]⟩)

set_option maxRecDepth 100000 in
set_option maxHeartbeats 4000000 in
theorem p_H_special (l : Launch) (hl : l.stackTraces = false) (t : Int32) (s : Int32) : th_F l yn_H_special cb_H_special 3 (some .int) { frames := 8, cells := 2, slots := 12, locals := 132 } [.inr (some (0, 0)), .inl t, .inl s] (th_m th_I0) (th_rm (fun x J => ((0 ≤ t.toInt ∧ t.toInt ≤ 4 ∧ 0 ≤ s.toInt ∧ s.toInt ≤ 3) ∧ x.toInt = 0) ∧ ∀ t i k, 17 ≤ t → J t i k = th_I0 t i k) (fun E J => (E = th_IAE ∧ ¬ (0 ≤ t.toInt ∧ t.toInt ≤ 4 ∧ 0 ≤ s.toInt ∧ s.toInt ≤ 3)) ∧ ∀ t i k, 17 ≤ t → J t i k = th_I0 t i k)) := by
  refine th_of hl (by decide +kernel) (Nat.le_of_ble_eq_true rfl) (fun z C hQ hN => ?_)
  show th_G l z 3 0 [(0, .inr (some (0, 0))), (1, .inl t), (2, .inl s)] [] (th_m th_I0) 0 0
  refine th_iload_n C dc_H_special_0 rfl rfl ?_
  refine th_iconst (v := 5) C dc_H_special_1 th_c_5 ?_
  refine tq_callSt C (c_H_requireBelow l hl th_I0 t ((5 : Int32)) (by have := th_l_5; omega)) ok_H_46 rfl (by decide) dc_H_special_2 rfl (fun E pE => th_outX C hQ (fun _ h => nomatch h) (by decide) (by decide) (Or.inr ⟨E, _, rfl, rfl, ⟨pE.1, fun q => by have := th_l_5; omega⟩, fun _ _ _ _ => rfl⟩)) (fun p1 => ?_)
  try simp only [th_l_5] at p1
  refine th_iload_n C dc_H_special_5 rfl rfl ?_
  refine th_iconst (v := 4) C dc_H_special_6 th_c_4 ?_
  refine tq_callSt C (c_H_requireBelow l hl th_I0 s ((4 : Int32)) (by have := th_l_4; omega)) ok_H_46 rfl (by decide) dc_H_special_7 rfl (fun E pE => th_outX C hQ (fun _ h => nomatch h) (by decide) (by decide) (Or.inr ⟨E, _, rfl, rfl, ⟨pE.1, fun q => by have := th_l_4; omega⟩, fun _ _ _ _ => rfl⟩)) (fun p2 => ?_)
  try simp only [th_l_4] at p2
  refine th_aload_n C dc_H_special_10 rfl rfl ?_
  refine th_aload_n C dc_H_special_11 rfl rfl ?_
  refine tq_getR C dc_H_special_12 cl_0 fd_H_11 rfl (show 0 < 1 from by omega) rfl ?_
  refine th_iload_n C dc_H_special_15 rfl rfl ?_
  obtain ⟨n3, m3⟩ := th_nat (a := t.toInt) (by omega)
  refine tq_aaldN C dc_H_special_16 rfl (fun _ => rfl) (show 0 < 1 from by omega) rfl m3 (show n3 < 5 from by omega) (fun _ => rfl) ?_
  refine th_iload_n C dc_H_special_17 rfl rfl ?_
  refine tq_callVp C (p_H_read l hl n3 s (by omega) (by omega)) ok_H_102 cl_0 (show 0 < 1 from by omega) rfl (by decide) dc_H_special_18 rfl (fun x4 p4 => ?_)
  exact th_iret C hQ dc_H_special_21 (by decide) (by decide) (Or.inl ⟨_, _, rfl, rfl, ⟨by omega, by first | omega | (dsimp only; omega)⟩, fun _ _ _ _ => rfl⟩)

set_option maxRecDepth 100000 in
set_option maxHeartbeats 4000000 in
theorem p_H_look (l : Launch) (hl : l.stackTraces = false) (t : Int32) (w : Int32) : th_F l yn_H_look cb_H_look 4 (some .int) { frames := 8, cells := 2, slots := 12, locals := 132 } [.inr (some (0, 0)), .inl t, .inl w] (th_m th_I0) (th_rm (fun x J => ((0 ≤ t.toInt ∧ t.toInt ≤ 4 ∧ 0 ≤ w.toInt ∧ w.toInt ≤ 9) ∧ ((w.toInt = 6 ∧ x.toInt = 24) ∨ (w.toInt ≠ 6 ∧ x.toInt = 0))) ∧ ∀ t i k, 17 ≤ t → J t i k = th_I0 t i k) (fun E J => (E = th_IAE ∧ ¬ (0 ≤ t.toInt ∧ t.toInt ≤ 4 ∧ 0 ≤ w.toInt ∧ w.toInt ≤ 9)) ∧ ∀ t i k, 17 ≤ t → J t i k = th_I0 t i k)) := by
  refine th_of hl (by decide +kernel) (Nat.le_of_ble_eq_true rfl) (fun z C hQ hN => ?_)
  show th_G l z 4 0 [(0, .inr (some (0, 0))), (1, .inl t), (2, .inl w)] [] (th_m th_I0) 0 0
  refine th_iload_n C dc_H_look_0 rfl rfl ?_
  refine th_iconst (v := 5) C dc_H_look_1 th_c_5 ?_
  refine tq_callSt C (c_H_requireBelow l hl th_I0 t ((5 : Int32)) (by have := th_l_5; omega)) ok_H_46 rfl (by decide) dc_H_look_2 rfl (fun E pE => th_outX C hQ (fun _ h => nomatch h) (by decide) (by decide) (Or.inr ⟨E, _, rfl, rfl, ⟨pE.1, fun q => by have := th_l_5; omega⟩, fun _ _ _ _ => rfl⟩)) (fun p1 => ?_)
  try simp only [th_l_5] at p1
  refine th_aload_n C dc_H_look_5 rfl rfl ?_
  refine tq_getR C dc_H_look_6 cl_0 fd_H_11 rfl (show 0 < 1 from by omega) rfl ?_
  refine th_iload_n C dc_H_look_9 rfl rfl ?_
  obtain ⟨n2, m2⟩ := th_nat (a := t.toInt) (by omega)
  refine tq_aaldN C dc_H_look_10 rfl (fun _ => rfl) (show 0 < 1 from by omega) rfl m2 (show n2 < 5 from by omega) (fun _ => rfl) ?_
  refine th_astore_n (lv' := [(0, .inr (some (0, 0))), (1, .inl t), (2, .inl w), (3, .inr (some (6, n2)))]) C dc_H_look_11 rfl (by decide) rfl ?_
  refine th_iload_n C dc_H_look_12 rfl rfl ?_
  have w3 : w.toInt = 0 ∨ w.toInt = 1 ∨ w.toInt = 2 ∨ w.toInt = 3 ∨ w.toInt = 4 ∨ w.toInt = 5 ∨ w.toInt = 6 ∨ w.toInt = 7 ∨ w.toInt = 8 ∨ w.toInt = 9 ∨ (w.toInt < 0 ∨ 9 < w.toInt) := by omega
  rcases w3 with w3 | w3 | w3 | w3 | w3 | w3 | w3 | w3 | w3 | w3 | w3
  · refine th_tableIn (tgt := 68) C dc_H_look_13 (by omega) (by omega) (by rw [w3]; rfl) (by decide) ?_
    refine th_aload_n C dc_H_look_68 rfl rfl ?_
    have e4 : (0 : Int32) = th_I0 6 n2 5 := rfl
    refine tq_getIe C dc_H_look_69 cl_6 fd_H_106 rfl (show n2 < 5 from by omega) e4 ?_
    exact th_iret C hQ dc_H_look_72 (by decide) (by decide) (Or.inl ⟨_, _, rfl, rfl, ⟨by omega, by have := th_l_0; first | omega | (dsimp only; omega)⟩, fun _ _ _ _ => rfl⟩)
  · refine th_tableIn (tgt := 73) C dc_H_look_13 (by omega) (by omega) (by rw [w3]; rfl) (by decide) ?_
    refine th_aload_n C dc_H_look_73 rfl rfl ?_
    have e5 : (0 : Int32) = th_I0 6 n2 6 := rfl
    refine tq_getIe C dc_H_look_74 cl_6 fd_H_109 rfl (show n2 < 5 from by omega) e5 ?_
    exact th_iret C hQ dc_H_look_77 (by decide) (by decide) (Or.inl ⟨_, _, rfl, rfl, ⟨by omega, by have := th_l_0; first | omega | (dsimp only; omega)⟩, fun _ _ _ _ => rfl⟩)
  · refine th_tableIn (tgt := 78) C dc_H_look_13 (by omega) (by omega) (by rw [w3]; rfl) (by decide) ?_
    refine th_aload_n C dc_H_look_78 rfl rfl ?_
    have e6 : (0 : Int32) = th_I0 6 n2 7 := rfl
    refine tq_getIe C dc_H_look_79 cl_6 fd_H_112 rfl (show n2 < 5 from by omega) e6 ?_
    exact th_iret C hQ dc_H_look_82 (by decide) (by decide) (Or.inl ⟨_, _, rfl, rfl, ⟨by omega, by have := th_l_0; first | omega | (dsimp only; omega)⟩, fun _ _ _ _ => rfl⟩)
  · refine th_tableIn (tgt := 83) C dc_H_look_13 (by omega) (by omega) (by rw [w3]; rfl) (by decide) ?_
    refine th_aload_n C dc_H_look_83 rfl rfl ?_
    refine tq_getR C dc_H_look_84 cl_6 fd_H_115 rfl (show n2 < 5 from by omega) rfl ?_
    have e7 : (0 : Int32) = th_I0 11 (2 * n2) 2 := rfl
    refine tq_getIe C dc_H_look_87 cl_11 fd_H_119 rfl (show 2 * n2 < 10 from by omega) e7 ?_
    exact th_iret C hQ dc_H_look_90 (by decide) (by decide) (Or.inl ⟨_, _, rfl, rfl, ⟨by omega, by have := th_l_0; first | omega | (dsimp only; omega)⟩, fun _ _ _ _ => rfl⟩)
  · refine th_tableIn (tgt := 91) C dc_H_look_13 (by omega) (by omega) (by rw [w3]; rfl) (by decide) ?_
    refine th_aload_n C dc_H_look_91 rfl rfl ?_
    refine tq_getR C dc_H_look_92 cl_6 fd_H_122 rfl (show n2 < 5 from by omega) rfl ?_
    have e8 : (0 : Int32) = th_I0 11 (2 * n2 + 1) 2 := rfl
    refine tq_getIe C dc_H_look_95 cl_11 fd_H_119 rfl (show 2 * n2 + 1 < 10 from by omega) e8 ?_
    exact th_iret C hQ dc_H_look_98 (by decide) (by decide) (Or.inl ⟨_, _, rfl, rfl, ⟨by omega, by have := th_l_0; first | omega | (dsimp only; omega)⟩, fun _ _ _ _ => rfl⟩)
  · refine th_tableIn (tgt := 99) C dc_H_look_13 (by omega) (by omega) (by rw [w3]; rfl) (by decide) ?_
    refine th_aload_n C dc_H_look_99 rfl rfl ?_
    have e9 : (0 : Int32) = th_I0 6 n2 11 := rfl
    refine tq_getIe C dc_H_look_100 cl_6 fd_H_125 rfl (show n2 < 5 from by omega) e9 ?_
    refine tq_if_eq (tgt := 110) C dc_H_look_103 (by decide) th_l_0 (fun c10 => ?_) (fun c10 => ?_)
    · refine th_iconst (v := 0) C dc_H_look_110 th_c_0 ?_
      exact th_iret C hQ dc_H_look_111 (by decide) (by decide) (Or.inl ⟨_, _, rfl, rfl, ⟨by omega, by have := th_l_0; first | omega | (dsimp only; omega)⟩, fun _ _ _ _ => rfl⟩)
    · exact absurd c10 (by decide)
  · refine th_tableIn (tgt := 112) C dc_H_look_13 (by omega) (by omega) (by rw [w3]; rfl) (by decide) ?_
    refine th_aload_n C dc_H_look_112 rfl rfl ?_
    have e11 : (24 : Int32) = th_I0 6 n2 8 := rfl
    refine tq_getIe C dc_H_look_113 cl_6 fd_H_129 rfl (show n2 < 5 from by omega) e11 ?_
    exact th_iret C hQ dc_H_look_116 (by decide) (by decide) (Or.inl ⟨_, _, rfl, rfl, ⟨by omega, by have := th_l_24; first | omega | (dsimp only; omega)⟩, fun _ _ _ _ => rfl⟩)
  · refine th_tableIn (tgt := 117) C dc_H_look_13 (by omega) (by omega) (by rw [w3]; rfl) (by decide) ?_
    refine th_aload_n C dc_H_look_117 rfl rfl ?_
    have e12 : (0 : Int32) = th_I0 6 n2 9 := rfl
    refine tq_getIe C dc_H_look_118 cl_6 fd_H_132 rfl (show n2 < 5 from by omega) e12 ?_
    exact th_iret C hQ dc_H_look_121 (by decide) (by decide) (Or.inl ⟨_, _, rfl, rfl, ⟨by omega, by have := th_l_0; first | omega | (dsimp only; omega)⟩, fun _ _ _ _ => rfl⟩)
  · refine th_tableIn (tgt := 122) C dc_H_look_13 (by omega) (by omega) (by rw [w3]; rfl) (by decide) ?_
    refine th_aload_n C dc_H_look_122 rfl rfl ?_
    have e13 : (0 : Int32) = th_I0 6 n2 10 := rfl
    refine tq_getIe C dc_H_look_123 cl_6 fd_H_135 rfl (show n2 < 5 from by omega) e13 ?_
    exact th_iret C hQ dc_H_look_126 (by decide) (by decide) (Or.inl ⟨_, _, rfl, rfl, ⟨by omega, by have := th_l_0; first | omega | (dsimp only; omega)⟩, fun _ _ _ _ => rfl⟩)
  · refine th_tableIn (tgt := 127) C dc_H_look_13 (by omega) (by omega) (by rw [w3]; rfl) (by decide) ?_
    refine th_aload_n C dc_H_look_127 rfl rfl ?_
    refine tq_getR C dc_H_look_128 cl_6 fd_H_138 rfl (show n2 < 5 from by omega) rfl ?_
    have e14 : (0 : Int32) = th_I0 14 n2 1 := rfl
    refine tq_getIe C dc_H_look_131 cl_14 fd_H_142 rfl (show n2 < 11 from by omega) e14 ?_
    exact th_iret C hQ dc_H_look_134 (by decide) (by decide) (Or.inl ⟨_, _, rfl, rfl, ⟨by omega, by have := th_l_0; first | omega | (dsimp only; omega)⟩, fun _ _ _ _ => rfl⟩)
  · refine th_tableOut (tgt := 135) C dc_H_look_13 w3 (by decide) ?_
    exact th_throw C hQ okT_H_143 dc_H_look_135 dc_H_look_138 dc_H_look_139 dc_H_look_142 (fun _ h => nomatch h) (by decide) (by decide) (by decide) (by decide) (by decide) (by decide) rfl (Or.inr ⟨_, _, rfl, rfl, ⟨rfl, fun q => by omega⟩, fun _ _ _ _ => rfl⟩)

set_option maxRecDepth 100000 in
set_option maxHeartbeats 4000000 in
theorem p_H_lock (l : Launch) (hl : l.stackTraces = false) (m : Int32) (w : Int32) : th_F l yn_H_lock cb_H_lock 3 (some .int) { frames := 8, cells := 2, slots := 12, locals := 132 } [.inr (some (0, 0)), .inl m, .inl w] (th_m th_I0) (th_rm (fun x J => ((0 ≤ m.toInt ∧ m.toInt ≤ 2 ∧ 0 ≤ w.toInt ∧ w.toInt ≤ 3) ∧ ((w.toInt = 0 ∧ x.toInt = -1) ∨ (w.toInt ≠ 0 ∧ x.toInt = 0))) ∧ ∀ t i k, 17 ≤ t → J t i k = th_I0 t i k) (fun E J => (E = th_IAE ∧ ¬ (0 ≤ m.toInt ∧ m.toInt ≤ 2 ∧ 0 ≤ w.toInt ∧ w.toInt ≤ 3)) ∧ ∀ t i k, 17 ≤ t → J t i k = th_I0 t i k)) := by
  refine th_of hl (by decide +kernel) (Nat.le_of_ble_eq_true rfl) (fun z C hQ hN => ?_)
  show th_G l z 3 0 [(0, .inr (some (0, 0))), (1, .inl m), (2, .inl w)] [] (th_m th_I0) 0 0
  refine th_iload_n C dc_H_lock_0 rfl rfl ?_
  refine th_iconst (v := 3) C dc_H_lock_1 th_c_3 ?_
  refine tq_callSt C (c_H_requireBelow l hl th_I0 m ((3 : Int32)) (by have := th_l_3; omega)) ok_H_46 rfl (by decide) dc_H_lock_2 rfl (fun E pE => th_outX C hQ (fun _ h => nomatch h) (by decide) (by decide) (Or.inr ⟨E, _, rfl, rfl, ⟨pE.1, fun q => by have := th_l_3; omega⟩, fun _ _ _ _ => rfl⟩)) (fun p1 => ?_)
  try simp only [th_l_3] at p1
  refine th_iload_n C dc_H_lock_5 rfl rfl ?_
  have w2 : w.toInt = 0 ∨ w.toInt = 1 ∨ w.toInt = 2 ∨ w.toInt = 3 ∨ (w.toInt < 0 ∨ 3 < w.toInt) := by omega
  rcases w2 with w2 | w2 | w2 | w2 | w2
  · refine th_tableIn (tgt := 36) C dc_H_lock_6 (by omega) (by omega) (by rw [w2]; rfl) (by decide) ?_
    refine th_aload_n C dc_H_lock_36 rfl rfl ?_
    refine tq_getR C dc_H_lock_37 cl_0 fd_H_20 rfl (show 0 < 1 from by omega) rfl ?_
    refine th_iload_n C dc_H_lock_40 rfl rfl ?_
    obtain ⟨n3, m3⟩ := th_nat (a := m.toInt) (by omega)
    refine tq_aaldN C dc_H_lock_41 rfl (fun _ => rfl) (show 0 < 1 from by omega) rfl m3 (show n3 < 3 from by omega) (fun _ => rfl) ?_
    have e4 : (-1 : Int32) = th_I0 16 n3 1 := rfl
    refine tq_getIe C dc_H_lock_42 cl_16 fd_H_146 rfl (show n3 < 3 from by omega) e4 ?_
    exact th_iret C hQ dc_H_lock_45 (by decide) (by decide) (Or.inl ⟨_, _, rfl, rfl, ⟨by omega, by have := th_l_m1; first | omega | (dsimp only; omega)⟩, fun _ _ _ _ => rfl⟩)
  · refine th_tableIn (tgt := 46) C dc_H_lock_6 (by omega) (by omega) (by rw [w2]; rfl) (by decide) ?_
    refine th_aload_n C dc_H_lock_46 rfl rfl ?_
    refine tq_getR C dc_H_lock_47 cl_0 fd_H_20 rfl (show 0 < 1 from by omega) rfl ?_
    refine th_iload_n C dc_H_lock_50 rfl rfl ?_
    obtain ⟨n5, m5⟩ := th_nat (a := m.toInt) (by omega)
    refine tq_aaldN C dc_H_lock_51 rfl (fun _ => rfl) (show 0 < 1 from by omega) rfl m5 (show n5 < 3 from by omega) (fun _ => rfl) ?_
    have e6 : (0 : Int32) = th_I0 16 n5 2 := rfl
    refine tq_getIe C dc_H_lock_52 cl_16 fd_H_149 rfl (show n5 < 3 from by omega) e6 ?_
    exact th_iret C hQ dc_H_lock_55 (by decide) (by decide) (Or.inl ⟨_, _, rfl, rfl, ⟨by omega, by have := th_l_0; first | omega | (dsimp only; omega)⟩, fun _ _ _ _ => rfl⟩)
  · refine th_tableIn (tgt := 56) C dc_H_lock_6 (by omega) (by omega) (by rw [w2]; rfl) (by decide) ?_
    refine th_aload_n C dc_H_lock_56 rfl rfl ?_
    refine tq_getR C dc_H_lock_57 cl_0 fd_H_20 rfl (show 0 < 1 from by omega) rfl ?_
    refine th_iload_n C dc_H_lock_60 rfl rfl ?_
    obtain ⟨n7, m7⟩ := th_nat (a := m.toInt) (by omega)
    refine tq_aaldN C dc_H_lock_61 rfl (fun _ => rfl) (show 0 < 1 from by omega) rfl m7 (show n7 < 3 from by omega) (fun _ => rfl) ?_
    refine tq_getR C dc_H_lock_62 cl_16 fd_H_152 rfl (show n7 < 3 from by omega) rfl ?_
    have e8 : (0 : Int32) = th_I0 14 (5 + n7) 1 := rfl
    refine tq_getIe C dc_H_lock_65 cl_14 fd_H_142 rfl (show 5 + n7 < 11 from by omega) e8 ?_
    exact th_iret C hQ dc_H_lock_68 (by decide) (by decide) (Or.inl ⟨_, _, rfl, rfl, ⟨by omega, by have := th_l_0; first | omega | (dsimp only; omega)⟩, fun _ _ _ _ => rfl⟩)
  · refine th_tableIn (tgt := 69) C dc_H_lock_6 (by omega) (by omega) (by rw [w2]; rfl) (by decide) ?_
    refine th_aload_n C dc_H_lock_69 rfl rfl ?_
    refine tq_getR C dc_H_lock_70 cl_0 fd_H_27 rfl (show 0 < 1 from by omega) rfl ?_
    refine th_iload_n C dc_H_lock_73 rfl rfl ?_
    obtain ⟨n9, m9⟩ := th_nat (a := m.toInt) (by omega)
    refine tq_aaldN C dc_H_lock_74 rfl (fun _ => rfl) (show 0 < 1 from by omega) rfl m9 (show n9 < 3 from by omega) (fun _ => rfl) ?_
    have e10 : (0 : Int32) = th_I0 14 (8 + n9) 1 := rfl
    refine tq_getIe C dc_H_lock_75 cl_14 fd_H_142 rfl (show 8 + n9 < 11 from by omega) e10 ?_
    exact th_iret C hQ dc_H_lock_78 (by decide) (by decide) (Or.inl ⟨_, _, rfl, rfl, ⟨by omega, by have := th_l_0; first | omega | (dsimp only; omega)⟩, fun _ _ _ _ => rfl⟩)
  · refine th_tableOut (tgt := 79) C dc_H_lock_6 w2 (by decide) ?_
    exact th_throw C hQ okT_H_143 dc_H_lock_79 dc_H_lock_82 dc_H_lock_83 dc_H_lock_86 (fun _ h => nomatch h) (by decide) (by decide) (by decide) (by decide) (by decide) (by decide) rfl (Or.inr ⟨_, _, rfl, rfl, ⟨rfl, fun q => by omega⟩, fun _ _ _ _ => rfl⟩)

set_option maxRecDepth 100000 in
set_option maxHeartbeats 4000000 in
theorem p_H_said (l : Launch) (hl : l.stackTraces = false) (k : Int32) : th_F l yn_H_said cb_H_said 2 (some .int) { frames := 6, cells := 1, slots := 6, locals := 89 } [.inr (some (0, 0)), .inl k] (th_m th_I0) (th_rm (fun x J => ((False) ∧ True) ∧ ∀ t i k, 17 ≤ t → J t i k = th_I0 t i k) (fun E J => (E = th_IOB ∧ ¬ (False)) ∧ ∀ t i k, 17 ≤ t → J t i k = th_I0 t i k)) := by
  refine th_of hl (by decide +kernel) (Nat.le_of_ble_eq_true rfl) (fun z C hQ hN => ?_)
  show th_G l z 2 0 [(0, .inr (some (0, 0))), (1, .inl k)] [] (th_m th_I0) 0 0
  refine th_iload_n C dc_H_said_0 rfl rfl ?_
  refine tq_if_lt (tgt := 18) C dc_H_said_1 (by decide) rfl (fun c1 => ?_) (fun c1 => ?_)
  · exact th_throw C hQ okT_H_72 dc_H_said_18 dc_H_said_21 dc_H_said_22 dc_H_said_25 (fun _ h => nomatch h) (by decide) (by decide) (by decide) (by decide) (by decide) (by decide) rfl (Or.inr ⟨_, _, rfl, rfl, ⟨rfl, fun q => q⟩, fun _ _ _ _ => rfl⟩)
  · refine th_iload_n C dc_H_said_4 rfl rfl ?_
    refine th_aload_n C dc_H_said_5 rfl rfl ?_
    have e2 : (0 : Int32) = th_I0 0 0 5 := rfl
    refine tq_getIe C dc_H_said_6 cl_0 fd_H_155 rfl (show 0 < 1 from by omega) e2 ?_
    refine tq_icmp_ge (tgt := 18) C dc_H_said_9 (by decide) rfl th_l_0 (fun c3 => ?_) (fun c3 => ?_)
    · exact th_throw C hQ okT_H_72 dc_H_said_18 dc_H_said_21 dc_H_said_22 dc_H_said_25 (fun _ h => nomatch h) (by decide) (by decide) (by decide) (by decide) (by decide) (by decide) rfl (Or.inr ⟨_, _, rfl, rfl, ⟨rfl, fun q => q⟩, fun _ _ _ _ => rfl⟩)
    · exact absurd c3 (by omega)

set_option maxRecDepth 100000 in
set_option maxHeartbeats 4000000 in
theorem p_H_count (l : Launch) (hl : l.stackTraces = false) (w : Int32) : th_F l yn_H_count cb_H_count 2 (some .int) { frames := 6, cells := 1, slots := 6, locals := 89 } [.inr (some (0, 0)), .inl w] (th_m th_I0) (th_rm (fun x J => ((0 ≤ w.toInt ∧ w.toInt ≤ 7) ∧ ((w.toInt = 6 ∧ x.toInt = -1) ∨ (w.toInt ≠ 6 ∧ x.toInt = 0))) ∧ ∀ t i k, 17 ≤ t → J t i k = th_I0 t i k) (fun E J => (E = th_IAE ∧ ¬ (0 ≤ w.toInt ∧ w.toInt ≤ 7)) ∧ ∀ t i k, 17 ≤ t → J t i k = th_I0 t i k)) := by
  refine th_of hl (by decide +kernel) (Nat.le_of_ble_eq_true rfl) (fun z C hQ hN => ?_)
  show th_G l z 2 0 [(0, .inr (some (0, 0))), (1, .inl w)] [] (th_m th_I0) 0 0
  refine th_iload_n C dc_H_count_0 rfl rfl ?_
  have w1 : w.toInt = 0 ∨ w.toInt = 1 ∨ w.toInt = 2 ∨ w.toInt = 3 ∨ w.toInt = 4 ∨ w.toInt = 5 ∨ w.toInt = 6 ∨ w.toInt = 7 ∨ (w.toInt < 0 ∨ 7 < w.toInt) := by omega
  rcases w1 with w1 | w1 | w1 | w1 | w1 | w1 | w1 | w1 | w1
  · refine th_tableIn (tgt := 48) C dc_H_count_1 (by omega) (by omega) (by rw [w1]; rfl) (by decide) ?_
    refine th_aload_n C dc_H_count_48 rfl rfl ?_
    have e2 : (0 : Int32) = th_I0 0 0 5 := rfl
    refine tq_getIe C dc_H_count_49 cl_0 fd_H_155 rfl (show 0 < 1 from by omega) e2 ?_
    exact th_iret C hQ dc_H_count_52 (by decide) (by decide) (Or.inl ⟨_, _, rfl, rfl, ⟨by omega, by have := th_l_0; first | omega | (dsimp only; omega)⟩, fun _ _ _ _ => rfl⟩)
  · refine th_tableIn (tgt := 53) C dc_H_count_1 (by omega) (by omega) (by rw [w1]; rfl) (by decide) ?_
    refine th_aload_n C dc_H_count_53 rfl rfl ?_
    have e3 : (0 : Int32) = th_I0 0 0 9 := rfl
    refine tq_getIe C dc_H_count_54 cl_0 fd_H_89 rfl (show 0 < 1 from by omega) e3 ?_
    exact th_iret C hQ dc_H_count_57 (by decide) (by decide) (Or.inl ⟨_, _, rfl, rfl, ⟨by omega, by have := th_l_0; first | omega | (dsimp only; omega)⟩, fun _ _ _ _ => rfl⟩)
  · refine th_tableIn (tgt := 58) C dc_H_count_1 (by omega) (by omega) (by rw [w1]; rfl) (by decide) ?_
    refine th_aload_n C dc_H_count_58 rfl rfl ?_
    have e4 : (0 : Int32) = th_I0 0 0 8 := rfl
    refine tq_getIe C dc_H_count_59 cl_0 fd_H_158 rfl (show 0 < 1 from by omega) e4 ?_
    exact th_iret C hQ dc_H_count_62 (by decide) (by decide) (Or.inl ⟨_, _, rfl, rfl, ⟨by omega, by have := th_l_0; first | omega | (dsimp only; omega)⟩, fun _ _ _ _ => rfl⟩)
  · refine th_tableIn (tgt := 63) C dc_H_count_1 (by omega) (by omega) (by rw [w1]; rfl) (by decide) ?_
    refine th_aload_n C dc_H_count_63 rfl rfl ?_
    refine tq_callVp C (p_H_aliveCount l hl) ok_H_161 cl_0 (show 0 < 1 from by omega) rfl (by decide) dc_H_count_64 rfl (fun x5 p5 => ?_)
    exact th_iret C hQ dc_H_count_67 (by decide) (by decide) (Or.inl ⟨_, _, rfl, rfl, ⟨by omega, by first | omega | (dsimp only; omega)⟩, fun _ _ _ _ => rfl⟩)
  · refine th_tableIn (tgt := 68) C dc_H_count_1 (by omega) (by omega) (by rw [w1]; rfl) (by decide) ?_
    refine th_aload_n C dc_H_count_68 rfl rfl ?_
    refine tq_callVp C (p_H_readyCount l hl) ok_H_164 cl_0 (show 0 < 1 from by omega) rfl (by decide) dc_H_count_69 rfl (fun x6 p6 => ?_)
    exact th_iret C hQ dc_H_count_72 (by decide) (by decide) (Or.inl ⟨_, _, rfl, rfl, ⟨by omega, by first | omega | (dsimp only; omega)⟩, fun _ _ _ _ => rfl⟩)
  · refine th_tableIn (tgt := 73) C dc_H_count_1 (by omega) (by omega) (by rw [w1]; rfl) (by decide) ?_
    refine th_aload_n C dc_H_count_73 rfl rfl ?_
    have e7 : (0 : Int32) = th_I0 0 0 10 := rfl
    refine tq_getIe C dc_H_count_74 cl_0 fd_H_167 rfl (show 0 < 1 from by omega) e7 ?_
    exact th_iret C hQ dc_H_count_77 (by decide) (by decide) (Or.inl ⟨_, _, rfl, rfl, ⟨by omega, by have := th_l_0; first | omega | (dsimp only; omega)⟩, fun _ _ _ _ => rfl⟩)
  · refine th_tableIn (tgt := 78) C dc_H_count_1 (by omega) (by omega) (by rw [w1]; rfl) (by decide) ?_
    refine th_aload_n C dc_H_count_78 rfl rfl ?_
    have e8 : (-1 : Int32) = th_I0 0 0 7 := rfl
    refine tq_getIe C dc_H_count_79 cl_0 fd_H_43 rfl (show 0 < 1 from by omega) e8 ?_
    exact th_iret C hQ dc_H_count_82 (by decide) (by decide) (Or.inl ⟨_, _, rfl, rfl, ⟨by omega, by have := th_l_m1; first | omega | (dsimp only; omega)⟩, fun _ _ _ _ => rfl⟩)
  · refine th_tableIn (tgt := 83) C dc_H_count_1 (by omega) (by omega) (by rw [w1]; rfl) (by decide) ?_
    refine th_aload_n C dc_H_count_83 rfl rfl ?_
    have e9 : (0 : Int32) = th_I0 0 0 11 := rfl
    refine tq_getIe C dc_H_count_84 cl_0 fd_H_170 rfl (show 0 < 1 from by omega) e9 ?_
    exact th_iret C hQ dc_H_count_87 (by decide) (by decide) (Or.inl ⟨_, _, rfl, rfl, ⟨by omega, by have := th_l_0; first | omega | (dsimp only; omega)⟩, fun _ _ _ _ => rfl⟩)
  · refine th_tableOut (tgt := 88) C dc_H_count_1 w1 (by decide) ?_
    exact th_throw C hQ okT_H_143 dc_H_count_88 dc_H_count_91 dc_H_count_92 dc_H_count_95 (fun _ h => nomatch h) (by decide) (by decide) (by decide) (by decide) (by decide) (by decide) rfl (Or.inr ⟨_, _, rfl, rfl, ⟨rfl, fun q => by omega⟩, fun _ _ _ _ => rfl⟩)

