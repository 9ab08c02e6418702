set_option maxRecDepth 100000 in
set_option maxHeartbeats 4000000 in
theorem q_run (l : Launch) (hl : l.stackTraces = false) {K sl : Int} (I : th_I) (n : Int32) (hI : th_Inv K sl I I) (hK : K + 800 ≤ 1000000) : th_FW l yn_L_run cb_L_run 4 (some .int) [(0, 9, 12, 13)] { frames := 8, cells := 1, slots := 6, locals := 166 } [.inr (some (0, 0)), .inl n, .inr (some (17, 0))] (th_m I) (th_ri (fun k J => th_Inv (K + 800) sl J J ∧ ∀ t i k, 20 ≤ t → J t i k = I t i k)) := by
  have hb := hI.2.2.1
  refine th_ofW hl (by decide +kernel) (Nat.le_of_ble_eq_true rfl) (fun z C hQ => ?_)
  show th_G l z 4 0 [(0, .inr (some (0, 0))), (1, .inl n), (2, .inr (some (17, 0)))] [] (th_m I) 0 0
  refine th_aload_n C dc_L_run_0 rfl rfl ?_
  refine th_iconst (v := 0) C dc_L_run_1 th_c_0 ?_
  refine th_aload_n C dc_L_run_2 rfl rfl ?_
  refine th_iload_n C dc_L_run_3 rfl rfl ?_
  refine tq_callVm C (c_H_run l hl I n hI (by omega)) ok_L_26 cl_0 (show 0 < 1 from by omega) rfl (Nat.le_of_ble_eq_true rfl) dc_L_run_4 rfl (fun E J pE => ?_) (fun x J pk => ?_)
  · obtain ⟨hJ, pE⟩ := pE
    rcases pE with rfl
    · refine th_catchX (name := "java/lang/IllegalArgumentException") (pre := []) (x := ⟨0, 9, 12, 13⟩) C rfl (fun q h => nomatch h) (by decide) (by decide) (tb 265 (by decide +kernel) rfl) (tn 280 (by decide +kernel) rfl) (i := 3) (Or.inr ⟨3, dc_L_run_12, rfl, rfl⟩) (by decide) (by simp) ?_
      refine th_iconst (v := 1) C dc_L_run_13 th_c_1 ?_
      exact th_iret C hQ dc_L_run_14 (by decide) (by decide) ⟨_, _, rfl, rfl, th_Inv_fr (th_mono hJ (by omega) (by omega)) (fun _ _ _ _ => rfl), fun t i k q => hJ.2.2.2 t i k (by omega)⟩
  · obtain ⟨hJ, pk⟩ := pk
    refine th_lst (mu := th_m J) (n := 0) C dc_L_run_7 dc_L_run_8 (show 0 < 1 from by omega) rfl (fun _ => rfl) (th_ixN th_l_0 (by decide) (show 0 < 1 from by omega)) ?_
    refine th_goto (tgt := 15) C dc_L_run_9 (by decide) ?_
    refine th_iconst (v := 0) C dc_L_run_15 th_c_0 ?_
    exact th_iret C hQ dc_L_run_16 (by decide) (by decide) ⟨_, th_u J 17 0 0 x, rfl, rfl, th_Inv_fr hJ (fun t i k q => th_u_tag (by omega)), fun t i k q => (th_u_tag (by omega)).trans (hJ.2.2.2 t i k (by omega))⟩

set_option maxRecDepth 100000 in
set_option maxHeartbeats 4000000 in
theorem q_slice (l : Launch) (hl : l.stackTraces = false) {K sl : Int} (I : th_I) (n : Int32) (hI : th_Inv K sl I I) (hK : K + 800 ≤ 1000000) : th_FW l yn_L_slice cb_L_slice 4 (some .int) [(0, 9, 12, 13)] { frames := 8, cells := 1, slots := 6, locals := 133 } [.inr (some (0, 0)), .inl n, .inr (some (17, 0))] (th_m I) (th_ri (fun k J => ((k.toInt = 0 ∧ (1 ≤ n.toInt ∧ n.toInt ≤ 20) ∧ (J 17 0 0).toInt = sl ∧ th_Inv (K + 800) n.toInt J J) ∨ (k.toInt = 1 ∧ ¬ (1 ≤ n.toInt ∧ n.toInt ≤ 20) ∧ th_Inv (K + 800) sl J J)) ∧ ∀ t i k, 20 ≤ t → J t i k = I t i k)) := by
  have hb := hI.2.2.1
  refine th_ofW hl (by decide +kernel) (Nat.le_of_ble_eq_true rfl) (fun z C hQ => ?_)
  show th_G l z 4 0 [(0, .inr (some (0, 0))), (1, .inl n), (2, .inr (some (17, 0)))] [] (th_m I) 0 0
  refine th_aload_n C dc_L_slice_0 rfl rfl ?_
  refine th_iconst (v := 0) C dc_L_slice_1 th_c_0 ?_
  refine th_aload_n C dc_L_slice_2 rfl rfl ?_
  refine th_iload_n C dc_L_slice_3 rfl rfl ?_
  refine tq_callVm C (c_H_slice l hl I n hI ) ok_L_32 cl_0 (show 0 < 1 from by omega) rfl (Nat.le_of_ble_eq_true rfl) dc_L_slice_4 rfl (fun E J pE => ?_) (fun x J pk => ?_)
  · obtain ⟨⟨hJ, rfl⟩, nC⟩ := pE
    refine th_catchX (name := "java/lang/IllegalArgumentException") (pre := []) (x := ⟨0, 9, 12, 13⟩) C rfl (fun q h => nomatch h) (by decide) (by decide) (tb 265 (by decide +kernel) rfl) (tn 280 (by decide +kernel) rfl) (i := 3) (Or.inr ⟨3, dc_L_slice_12, rfl, rfl⟩) (by decide) (by simp) ?_
    refine th_iconst (v := 1) C dc_L_slice_13 th_c_1 ?_
    exact th_iret C hQ dc_L_slice_14 (by decide) (by decide) ⟨_, _, rfl, rfl, Or.inr ⟨th_l_1, nC, th_Inv_fr (th_mono hJ (by omega) (by omega)) (fun _ _ _ _ => rfl)⟩, fun t i k q => hJ.2.2.2 t i k (by omega)⟩
  · obtain ⟨hJ, pk⟩ := pk
    refine th_lst (mu := th_m J) (n := 0) C dc_L_slice_7 dc_L_slice_8 (show 0 < 1 from by omega) rfl (fun _ => rfl) (th_ixN th_l_0 (by decide) (show 0 < 1 from by omega)) ?_
    refine th_goto (tgt := 15) C dc_L_slice_9 (by decide) ?_
    refine th_iconst (v := 0) C dc_L_slice_15 th_c_0 ?_
    exact th_iret C hQ dc_L_slice_16 (by decide) (by decide) ⟨_, th_u J 17 0 0 x, rfl, rfl, Or.inl ⟨th_l_0, pk.1, (by rw [th_u_eq]; exact pk.2), th_Inv_fr (th_mono hJ (by omega) (by omega)) (fun t i k q => th_u_tag (by omega))⟩, fun t i k q => (th_u_tag (by omega)).trans (hJ.2.2.2 t i k (by omega))⟩

set_option maxRecDepth 100000 in
set_option maxHeartbeats 4000000 in
theorem q_add (l : Launch) (hl : l.stackTraces = false) {K sl : Int} (I : th_I) (t : Int32) (o : Int32) (a : Int32) (b : Int32) (hI : th_Inv K sl I I) (hK : K + 800 ≤ 1000000) : th_FW l yn_L_add cb_L_add 7 (some .int) [(0, 14, 17, 13), (0, 14, 21, 15), (0, 14, 25, 17)] { frames := 10, cells := 6, slots := 36, locals := 178 } [.inr (some (0, 0)), .inl t, .inl o, .inl a, .inl b, .inr (some (17, 0))] (th_m I) (th_ri (fun k J => th_Inv (K + 800) sl J J ∧ ∀ t i k, 20 ≤ t → J t i k = I t i k)) := by
  have hb := hI.2.2.1
  refine th_ofW hl (by decide +kernel) (Nat.le_of_ble_eq_true rfl) (fun z C hQ => ?_)
  show th_G l z 7 0 [(0, .inr (some (0, 0))), (1, .inl t), (2, .inl o), (3, .inl a), (4, .inl b), (5, .inr (some (17, 0)))] [] (th_m I) 0 0
  refine th_aload C dc_L_add_0 rfl ?_
  refine th_iconst (v := 0) C dc_L_add_2 th_c_0 ?_
  refine th_aload_n C dc_L_add_3 rfl rfl ?_
  refine th_iload_n C dc_L_add_4 rfl rfl ?_
  refine th_iload_n C dc_L_add_5 rfl rfl ?_
  refine th_iload_n C dc_L_add_6 rfl rfl ?_
  refine th_iload C dc_L_add_7 rfl ?_
  refine tq_callVm C (c_H_add l hl I t o a b hI ) ok_L_7 cl_0 (show 0 < 1 from by omega) rfl (Nat.le_of_ble_eq_true rfl) dc_L_add_9 rfl (fun E J pE => ?_) (fun x J pk => ?_)
  · obtain ⟨hJ, pE⟩ := pE
    rcases pE with rfl | rfl | rfl
    · refine th_catchX (name := "java/lang/IllegalArgumentException") (pre := []) (x := ⟨0, 14, 17, 13⟩) C rfl (fun q h => nomatch h) (by decide) (by decide) (tb 265 (by decide +kernel) rfl) (tn 280 (by decide +kernel) rfl) (i := 6) (Or.inl ⟨dc_L_add_17, rfl⟩) (by decide) (by simp) ?_
      refine th_iconst (v := 1) C dc_L_add_19 th_c_1 ?_
      exact th_iret C hQ dc_L_add_20 (by decide) (by decide) ⟨_, _, rfl, rfl, th_Inv_fr (th_mono hJ (by omega) (by omega)) (fun _ _ _ _ => rfl), fun t i k q => hJ.2.2.2 t i k (by omega)⟩
    · refine th_catchX (name := "java/lang/IllegalStateException") (pre := [⟨0, 14, 17, 13⟩]) (x := ⟨0, 14, 21, 15⟩) C rfl (th_ps1 ⟨by decide, th_IAE, (tb 265 (by decide +kernel) rfl), by simp [th_NC]⟩) (by decide) (by decide) (tb 266 (by decide +kernel) rfl) (tn 357 (by decide +kernel) rfl) (i := 6) (Or.inl ⟨dc_L_add_21, rfl⟩) (by decide) (by simp) ?_
      refine th_iconst (v := 2) C dc_L_add_23 th_c_2 ?_
      exact th_iret C hQ dc_L_add_24 (by decide) (by decide) ⟨_, _, rfl, rfl, th_Inv_fr (th_mono hJ (by omega) (by omega)) (fun _ _ _ _ => rfl), fun t i k q => hJ.2.2.2 t i k (by omega)⟩
    · refine th_catchX (name := "java/lang/IndexOutOfBoundsException") (pre := [⟨0, 14, 17, 13⟩, ⟨0, 14, 21, 15⟩]) (x := ⟨0, 14, 25, 17⟩) C rfl (th_ps2 ⟨by decide, th_IAE, (tb 265 (by decide +kernel) rfl), by simp [th_NC]⟩ ⟨by decide, th_ISE, (tb 266 (by decide +kernel) rfl), by simp [th_NC]⟩) (by decide) (by decide) (tb 267 (by decide +kernel) rfl) (tn 372 (by decide +kernel) rfl) (i := 6) (Or.inl ⟨dc_L_add_25, rfl⟩) (by decide) (by simp) ?_
      refine th_iconst (v := 3) C dc_L_add_27 th_c_3 ?_
      exact th_iret C hQ dc_L_add_28 (by decide) (by decide) ⟨_, _, rfl, rfl, th_Inv_fr (th_mono hJ (by omega) (by omega)) (fun _ _ _ _ => rfl), fun t i k q => hJ.2.2.2 t i k (by omega)⟩
  · obtain ⟨hJ, pk⟩ := pk
    refine th_lst (mu := th_m J) (n := 0) C dc_L_add_12 dc_L_add_13 (show 0 < 1 from by omega) rfl (fun _ => rfl) (th_ixN th_l_0 (by decide) (show 0 < 1 from by omega)) ?_
    refine th_goto (tgt := 29) C dc_L_add_14 (by decide) ?_
    refine th_iconst (v := 0) C dc_L_add_29 th_c_0 ?_
    exact th_iret C hQ dc_L_add_30 (by decide) (by decide) ⟨_, th_u J 17 0 0 x, rfl, rfl, th_Inv_fr (th_mono hJ (by omega) (by omega)) (fun t i k q => th_u_tag (by omega)), fun t i k q => (th_u_tag (by omega)).trans (hJ.2.2.2 t i k (by omega))⟩

set_option maxRecDepth 100000 in
set_option maxHeartbeats 4000000 in
theorem q_clear (l : Launch) (hl : l.stackTraces = false) {K sl : Int} (I : th_I) (t : Int32) (hI : th_Inv K sl I I) (hK : K + 800 ≤ 1000000) : th_FW l yn_L_clear cb_L_clear 4 (some .int) [(0, 9, 12, 13), (0, 9, 15, 15)] { frames := 9, cells := 2, slots := 12, locals := 154 } [.inr (some (0, 0)), .inl t, .inr (some (17, 0))] (th_m I) (th_ri (fun k J => th_Inv (K + 800) sl J J ∧ ∀ t i k, 20 ≤ t → J t i k = I t i k)) := by
  have hb := hI.2.2.1
  refine th_ofW hl (by decide +kernel) (Nat.le_of_ble_eq_true rfl) (fun z C hQ => ?_)
  show th_G l z 4 0 [(0, .inr (some (0, 0))), (1, .inl t), (2, .inr (some (17, 0)))] [] (th_m I) 0 0
  refine th_aload_n C dc_L_clear_0 rfl rfl ?_
  refine th_iconst (v := 0) C dc_L_clear_1 th_c_0 ?_
  refine th_aload_n C dc_L_clear_2 rfl rfl ?_
  refine th_iload_n C dc_L_clear_3 rfl rfl ?_
  refine tq_callVm C (c_H_clear l hl I t hI ) ok_L_19 cl_0 (show 0 < 1 from by omega) rfl (Nat.le_of_ble_eq_true rfl) dc_L_clear_4 rfl (fun E J pE => ?_) (fun x J pk => ?_)
  · obtain ⟨hJ, pE⟩ := pE
    rcases pE with rfl | rfl
    · refine th_catchX (name := "java/lang/IllegalArgumentException") (pre := []) (x := ⟨0, 9, 12, 13⟩) C rfl (fun q h => nomatch h) (by decide) (by decide) (tb 265 (by decide +kernel) rfl) (tn 280 (by decide +kernel) rfl) (i := 3) (Or.inr ⟨3, dc_L_clear_12, rfl, rfl⟩) (by decide) (by simp) ?_
      refine th_iconst (v := 1) C dc_L_clear_13 th_c_1 ?_
      exact th_iret C hQ dc_L_clear_14 (by decide) (by decide) ⟨_, _, rfl, rfl, th_Inv_fr (th_mono hJ (by omega) (by omega)) (fun _ _ _ _ => rfl), fun t i k q => hJ.2.2.2 t i k (by omega)⟩
    · refine th_catchX (name := "java/lang/IllegalStateException") (pre := [⟨0, 9, 12, 13⟩]) (x := ⟨0, 9, 15, 15⟩) C rfl (th_ps1 ⟨by decide, th_IAE, (tb 265 (by decide +kernel) rfl), by simp [th_NC]⟩) (by decide) (by decide) (tb 266 (by decide +kernel) rfl) (tn 357 (by decide +kernel) rfl) (i := 3) (Or.inr ⟨3, dc_L_clear_15, rfl, rfl⟩) (by decide) (by simp) ?_
      refine th_iconst (v := 2) C dc_L_clear_16 th_c_2 ?_
      exact th_iret C hQ dc_L_clear_17 (by decide) (by decide) ⟨_, _, rfl, rfl, th_Inv_fr (th_mono hJ (by omega) (by omega)) (fun _ _ _ _ => rfl), fun t i k q => hJ.2.2.2 t i k (by omega)⟩
  · obtain ⟨hJ, pk⟩ := pk
    refine th_lst (mu := th_m J) (n := 0) C dc_L_clear_7 dc_L_clear_8 (show 0 < 1 from by omega) rfl (fun _ => rfl) (th_ixN th_l_0 (by decide) (show 0 < 1 from by omega)) ?_
    refine th_goto (tgt := 18) C dc_L_clear_9 (by decide) ?_
    refine th_iconst (v := 0) C dc_L_clear_18 th_c_0 ?_
    exact th_iret C hQ dc_L_clear_19 (by decide) (by decide) ⟨_, th_u J 17 0 0 x, rfl, rfl, th_Inv_fr (th_mono hJ (by omega) (by omega)) (fun t i k q => th_u_tag (by omega)), fun t i k q => (th_u_tag (by omega)).trans (hJ.2.2.2 t i k (by omega))⟩

set_option maxRecDepth 100000 in
set_option maxHeartbeats 4000000 in
theorem q_start (l : Launch) (hl : l.stackTraces = false) {K sl : Int} (I : th_I) (t : Int32) (hI : th_Inv K sl I I) (hK : K + 800 ≤ 1000000) : th_FW l yn_L_start cb_L_start 4 (some .int) [(0, 9, 12, 13)] { frames := 9, cells := 1, slots := 6, locals := 153 } [.inr (some (0, 0)), .inl t, .inr (some (17, 0))] (th_m I) (th_ri (fun k J => th_Inv (K + 800) sl J J ∧ ∀ t i k, 20 ≤ t → J t i k = I t i k)) := by
  have hb := hI.2.2.1
  refine th_ofW hl (by decide +kernel) (Nat.le_of_ble_eq_true rfl) (fun z C hQ => ?_)
  show th_G l z 4 0 [(0, .inr (some (0, 0))), (1, .inl t), (2, .inr (some (17, 0)))] [] (th_m I) 0 0
  refine th_aload_n C dc_L_start_0 rfl rfl ?_
  refine th_iconst (v := 0) C dc_L_start_1 th_c_0 ?_
  refine th_aload_n C dc_L_start_2 rfl rfl ?_
  refine th_iload_n C dc_L_start_3 rfl rfl ?_
  refine tq_callVm C (c_H_start l hl I t hI ) ok_L_23 cl_0 (show 0 < 1 from by omega) rfl (Nat.le_of_ble_eq_true rfl) dc_L_start_4 rfl (fun E J pE => ?_) (fun x J pk => ?_)
  · obtain ⟨hJ, pE⟩ := pE
    rcases pE with rfl
    · refine th_catchX (name := "java/lang/IllegalArgumentException") (pre := []) (x := ⟨0, 9, 12, 13⟩) C rfl (fun q h => nomatch h) (by decide) (by decide) (tb 265 (by decide +kernel) rfl) (tn 280 (by decide +kernel) rfl) (i := 3) (Or.inr ⟨3, dc_L_start_12, rfl, rfl⟩) (by decide) (by simp) ?_
      refine th_iconst (v := 1) C dc_L_start_13 th_c_1 ?_
      exact th_iret C hQ dc_L_start_14 (by decide) (by decide) ⟨_, _, rfl, rfl, th_Inv_fr (th_mono hJ (by omega) (by omega)) (fun _ _ _ _ => rfl), fun t i k q => hJ.2.2.2 t i k (by omega)⟩
  · obtain ⟨hJ, pk⟩ := pk
    refine th_lst (mu := th_m J) (n := 0) C dc_L_start_7 dc_L_start_8 (show 0 < 1 from by omega) rfl (fun _ => rfl) (th_ixN th_l_0 (by decide) (show 0 < 1 from by omega)) ?_
    refine th_goto (tgt := 15) C dc_L_start_9 (by decide) ?_
    refine th_iconst (v := 0) C dc_L_start_15 th_c_0 ?_
    exact th_iret C hQ dc_L_start_16 (by decide) (by decide) ⟨_, th_u J 17 0 0 x, rfl, rfl, th_Inv_fr (th_mono hJ (by omega) (by omega)) (fun t i k q => th_u_tag (by omega)), fun t i k q => (th_u_tag (by omega)).trans (hJ.2.2.2 t i k (by omega))⟩

set_option maxRecDepth 100000 in
set_option maxHeartbeats 4000000 in
theorem q_interrupt (l : Launch) (hl : l.stackTraces = false) {K sl : Int} (I : th_I) (t : Int32) (hI : th_Inv K sl I I) (hK : K + 800 ≤ 1000000) : th_FW l yn_L_interrupt cb_L_interrupt 4 (some .int) [(0, 9, 12, 13)] { frames := 9, cells := 1, slots := 6, locals := 153 } [.inr (some (0, 0)), .inl t, .inr (some (17, 0))] (th_m I) (th_ri (fun k J => th_Inv (K + 800) sl J J ∧ ∀ t i k, 20 ≤ t → J t i k = I t i k)) := by
  have hb := hI.2.2.1
  refine th_ofW hl (by decide +kernel) (Nat.le_of_ble_eq_true rfl) (fun z C hQ => ?_)
  show th_G l z 4 0 [(0, .inr (some (0, 0))), (1, .inl t), (2, .inr (some (17, 0)))] [] (th_m I) 0 0
  refine th_aload_n C dc_L_interrupt_0 rfl rfl ?_
  refine th_iconst (v := 0) C dc_L_interrupt_1 th_c_0 ?_
  refine th_aload_n C dc_L_interrupt_2 rfl rfl ?_
  refine th_iload_n C dc_L_interrupt_3 rfl rfl ?_
  refine tq_callVm C (c_H_interrupt l hl I t hI ) ok_L_29 cl_0 (show 0 < 1 from by omega) rfl (Nat.le_of_ble_eq_true rfl) dc_L_interrupt_4 rfl (fun E J pE => ?_) (fun x J pk => ?_)
  · obtain ⟨hJ, pE⟩ := pE
    rcases pE with rfl
    · refine th_catchX (name := "java/lang/IllegalArgumentException") (pre := []) (x := ⟨0, 9, 12, 13⟩) C rfl (fun q h => nomatch h) (by decide) (by decide) (tb 265 (by decide +kernel) rfl) (tn 280 (by decide +kernel) rfl) (i := 3) (Or.inr ⟨3, dc_L_interrupt_12, rfl, rfl⟩) (by decide) (by simp) ?_
      refine th_iconst (v := 1) C dc_L_interrupt_13 th_c_1 ?_
      exact th_iret C hQ dc_L_interrupt_14 (by decide) (by decide) ⟨_, _, rfl, rfl, th_Inv_fr (th_mono hJ (by omega) (by omega)) (fun _ _ _ _ => rfl), fun t i k q => hJ.2.2.2 t i k (by omega)⟩
  · obtain ⟨hJ, pk⟩ := pk
    refine th_lst (mu := th_m J) (n := 0) C dc_L_interrupt_7 dc_L_interrupt_8 (show 0 < 1 from by omega) rfl (fun _ => rfl) (th_ixN th_l_0 (by decide) (show 0 < 1 from by omega)) ?_
    refine th_goto (tgt := 15) C dc_L_interrupt_9 (by decide) ?_
    refine th_iconst (v := 0) C dc_L_interrupt_15 th_c_0 ?_
    exact th_iret C hQ dc_L_interrupt_16 (by decide) (by decide) ⟨_, th_u J 17 0 0 x, rfl, rfl, th_Inv_fr (th_mono hJ (by omega) (by omega)) (fun t i k q => th_u_tag (by omega)), fun t i k q => (th_u_tag (by omega)).trans (hJ.2.2.2 t i k (by omega))⟩

set_option maxRecDepth 100000 in
set_option maxHeartbeats 4000000 in
theorem q_global (l : Launch) (hl : l.stackTraces = false) {K sl : Int} (I : th_I) (s : Int32) (v : Int32) (hI : th_Inv K sl I I) (hK : K + 800 ≤ 1000000) : th_FW l yn_L_global cb_L_global 5 (some .int) [(0, 10, 13, 13)] { frames := 9, cells := 1, slots := 6, locals := 155 } [.inr (some (0, 0)), .inl s, .inl v, .inr (some (17, 0))] (th_m I) (th_ri (fun k J => th_Inv (K + 800) sl J J ∧ ∀ t i k, 20 ≤ t → J t i k = I t i k)) := by
  have hb := hI.2.2.1
  refine th_ofW hl (by decide +kernel) (Nat.le_of_ble_eq_true rfl) (fun z C hQ => ?_)
  show th_G l z 5 0 [(0, .inr (some (0, 0))), (1, .inl s), (2, .inl v), (3, .inr (some (17, 0)))] [] (th_m I) 0 0
  refine th_aload_n C dc_L_global_0 rfl rfl ?_
  refine th_iconst (v := 0) C dc_L_global_1 th_c_0 ?_
  refine th_aload_n C dc_L_global_2 rfl rfl ?_
  refine th_iload_n C dc_L_global_3 rfl rfl ?_
  refine th_iload_n C dc_L_global_4 rfl rfl ?_
  refine tq_callVm C (c_H_global l hl I s v hI ) ok_L_35 cl_0 (show 0 < 1 from by omega) rfl (Nat.le_of_ble_eq_true rfl) dc_L_global_5 rfl (fun E J pE => ?_) (fun x J pk => ?_)
  · obtain ⟨hJ, pE⟩ := pE
    rcases pE with rfl
    · refine th_catchX (name := "java/lang/IllegalArgumentException") (pre := []) (x := ⟨0, 10, 13, 13⟩) C rfl (fun q h => nomatch h) (by decide) (by decide) (tb 265 (by decide +kernel) rfl) (tn 280 (by decide +kernel) rfl) (i := 4) (Or.inl ⟨dc_L_global_13, rfl⟩) (by decide) (by simp) ?_
      refine th_iconst (v := 1) C dc_L_global_15 th_c_1 ?_
      exact th_iret C hQ dc_L_global_16 (by decide) (by decide) ⟨_, _, rfl, rfl, th_Inv_fr (th_mono hJ (by omega) (by omega)) (fun _ _ _ _ => rfl), fun t i k q => hJ.2.2.2 t i k (by omega)⟩
  · obtain ⟨hJ, pk⟩ := pk
    refine th_lst (mu := th_m J) (n := 0) C dc_L_global_8 dc_L_global_9 (show 0 < 1 from by omega) rfl (fun _ => rfl) (th_ixN th_l_0 (by decide) (show 0 < 1 from by omega)) ?_
    refine th_goto (tgt := 17) C dc_L_global_10 (by decide) ?_
    refine th_iconst (v := 0) C dc_L_global_17 th_c_0 ?_
    exact th_iret C hQ dc_L_global_18 (by decide) (by decide) ⟨_, th_u J 17 0 0 x, rfl, rfl, th_Inv_fr (th_mono hJ (by omega) (by omega)) (fun t i k q => th_u_tag (by omega)), fun t i k q => (th_u_tag (by omega)).trans (hJ.2.2.2 t i k (by omega))⟩

set_option maxRecDepth 100000 in
set_option maxHeartbeats 4000000 in
theorem q_special (l : Launch) (hl : l.stackTraces = false) {K sl : Int} (I : th_I) (t : Int32) (s : Int32) (hI : th_Inv K sl I I) (hK : K + 800 ≤ 1000000) : th_FW l yn_L_special cb_L_special 5 (some .int) [(0, 10, 13, 13)] { frames := 9, cells := 2, slots := 12, locals := 154 } [.inr (some (0, 0)), .inl t, .inl s, .inr (some (17, 0))] (th_m I) (th_ri (fun k J => th_Inv (K + 800) sl J J ∧ ∀ t i k, 20 ≤ t → J t i k = I t i k)) := by
  have hb := hI.2.2.1
  refine th_ofW hl (by decide +kernel) (Nat.le_of_ble_eq_true rfl) (fun z C hQ => ?_)
  show th_G l z 5 0 [(0, .inr (some (0, 0))), (1, .inl t), (2, .inl s), (3, .inr (some (17, 0)))] [] (th_m I) 0 0
  refine th_aload_n C dc_L_special_0 rfl rfl ?_
  refine th_iconst (v := 0) C dc_L_special_1 th_c_0 ?_
  refine th_aload_n C dc_L_special_2 rfl rfl ?_
  refine th_iload_n C dc_L_special_3 rfl rfl ?_
  refine th_iload_n C dc_L_special_4 rfl rfl ?_
  refine tq_callVm C (c_H_special l hl I t s hI ) ok_L_39 cl_0 (show 0 < 1 from by omega) rfl (Nat.le_of_ble_eq_true rfl) dc_L_special_5 rfl (fun E J pE => ?_) (fun x J pk => ?_)
  · obtain ⟨hJ, pE⟩ := pE
    rcases pE with rfl
    · refine th_catchX (name := "java/lang/IllegalArgumentException") (pre := []) (x := ⟨0, 10, 13, 13⟩) C rfl (fun q h => nomatch h) (by decide) (by decide) (tb 265 (by decide +kernel) rfl) (tn 280 (by decide +kernel) rfl) (i := 4) (Or.inl ⟨dc_L_special_13, rfl⟩) (by decide) (by simp) ?_
      refine th_iconst (v := 1) C dc_L_special_15 th_c_1 ?_
      exact th_iret C hQ dc_L_special_16 (by decide) (by decide) ⟨_, _, rfl, rfl, th_Inv_fr (th_mono hJ (by omega) (by omega)) (fun _ _ _ _ => rfl), fun t i k q => hJ.2.2.2 t i k (by omega)⟩
  · obtain ⟨hJ, pk⟩ := pk
    refine th_lst (mu := th_m J) (n := 0) C dc_L_special_8 dc_L_special_9 (show 0 < 1 from by omega) rfl (fun _ => rfl) (th_ixN th_l_0 (by decide) (show 0 < 1 from by omega)) ?_
    refine th_goto (tgt := 17) C dc_L_special_10 (by decide) ?_
    refine th_iconst (v := 0) C dc_L_special_17 th_c_0 ?_
    exact th_iret C hQ dc_L_special_18 (by decide) (by decide) ⟨_, th_u J 17 0 0 x, rfl, rfl, th_Inv_fr (th_mono hJ (by omega) (by omega)) (fun t i k q => th_u_tag (by omega)), fun t i k q => (th_u_tag (by omega)).trans (hJ.2.2.2 t i k (by omega))⟩

set_option maxRecDepth 100000 in
set_option maxHeartbeats 4000000 in
theorem q_look (l : Launch) (hl : l.stackTraces = false) {K sl : Int} (I : th_I) (t : Int32) (w : Int32) (hI : th_Inv K sl I I) (hK : K + 800 ≤ 1000000) : th_FW l yn_L_look cb_L_look 5 (some .int) [(0, 10, 13, 13)] { frames := 9, cells := 2, slots := 12, locals := 155 } [.inr (some (0, 0)), .inl t, .inl w, .inr (some (17, 0))] (th_m I) (th_ri (fun k J => th_Inv (K + 800) sl J J ∧ ∀ t i k, 20 ≤ t → J t i k = I t i k)) := by
  have hb := hI.2.2.1
  refine th_ofW hl (by decide +kernel) (Nat.le_of_ble_eq_true rfl) (fun z C hQ => ?_)
  show th_G l z 5 0 [(0, .inr (some (0, 0))), (1, .inl t), (2, .inl w), (3, .inr (some (17, 0)))] [] (th_m I) 0 0
  refine th_aload_n C dc_L_look_0 rfl rfl ?_
  refine th_iconst (v := 0) C dc_L_look_1 th_c_0 ?_
  refine th_aload_n C dc_L_look_2 rfl rfl ?_
  refine th_iload_n C dc_L_look_3 rfl rfl ?_
  refine th_iload_n C dc_L_look_4 rfl rfl ?_
  refine tq_callVm C (c_H_look l hl I t w hI ) ok_L_42 cl_0 (show 0 < 1 from by omega) rfl (Nat.le_of_ble_eq_true rfl) dc_L_look_5 rfl (fun E J pE => ?_) (fun x J pk => ?_)
  · obtain ⟨hJ, pE⟩ := pE
    rcases pE with rfl
    · refine th_catchX (name := "java/lang/IllegalArgumentException") (pre := []) (x := ⟨0, 10, 13, 13⟩) C rfl (fun q h => nomatch h) (by decide) (by decide) (tb 265 (by decide +kernel) rfl) (tn 280 (by decide +kernel) rfl) (i := 4) (Or.inl ⟨dc_L_look_13, rfl⟩) (by decide) (by simp) ?_
      refine th_iconst (v := 1) C dc_L_look_15 th_c_1 ?_
      exact th_iret C hQ dc_L_look_16 (by decide) (by decide) ⟨_, _, rfl, rfl, th_Inv_fr (th_mono hJ (by omega) (by omega)) (fun _ _ _ _ => rfl), fun t i k q => hJ.2.2.2 t i k (by omega)⟩
  · obtain ⟨hJ, pk⟩ := pk
    refine th_lst (mu := th_m J) (n := 0) C dc_L_look_8 dc_L_look_9 (show 0 < 1 from by omega) rfl (fun _ => rfl) (th_ixN th_l_0 (by decide) (show 0 < 1 from by omega)) ?_
    refine th_goto (tgt := 17) C dc_L_look_10 (by decide) ?_
    refine th_iconst (v := 0) C dc_L_look_17 th_c_0 ?_
    exact th_iret C hQ dc_L_look_18 (by decide) (by decide) ⟨_, th_u J 17 0 0 x, rfl, rfl, th_Inv_fr (th_mono hJ (by omega) (by omega)) (fun t i k q => th_u_tag (by omega)), fun t i k q => (th_u_tag (by omega)).trans (hJ.2.2.2 t i k (by omega))⟩

set_option maxRecDepth 100000 in
set_option maxHeartbeats 4000000 in
theorem q_lock (l : Launch) (hl : l.stackTraces = false) {K sl : Int} (I : th_I) (m : Int32) (w : Int32) (hI : th_Inv K sl I I) (hK : K + 800 ≤ 1000000) : th_FW l yn_L_lock cb_L_lock 5 (some .int) [(0, 10, 13, 13)] { frames := 9, cells := 2, slots := 12, locals := 154 } [.inr (some (0, 0)), .inl m, .inl w, .inr (some (17, 0))] (th_m I) (th_ri (fun k J => th_Inv (K + 800) sl J J ∧ ∀ t i k, 20 ≤ t → J t i k = I t i k)) := by
  have hb := hI.2.2.1
  refine th_ofW hl (by decide +kernel) (Nat.le_of_ble_eq_true rfl) (fun z C hQ => ?_)
  show th_G l z 5 0 [(0, .inr (some (0, 0))), (1, .inl m), (2, .inl w), (3, .inr (some (17, 0)))] [] (th_m I) 0 0
  refine th_aload_n C dc_L_lock_0 rfl rfl ?_
  refine th_iconst (v := 0) C dc_L_lock_1 th_c_0 ?_
  refine th_aload_n C dc_L_lock_2 rfl rfl ?_
  refine th_iload_n C dc_L_lock_3 rfl rfl ?_
  refine th_iload_n C dc_L_lock_4 rfl rfl ?_
  refine tq_callVm C (c_H_lock l hl I m w hI ) ok_L_45 cl_0 (show 0 < 1 from by omega) rfl (Nat.le_of_ble_eq_true rfl) dc_L_lock_5 rfl (fun E J pE => ?_) (fun x J pk => ?_)
  · obtain ⟨hJ, pE⟩ := pE
    rcases pE with rfl
    · refine th_catchX (name := "java/lang/IllegalArgumentException") (pre := []) (x := ⟨0, 10, 13, 13⟩) C rfl (fun q h => nomatch h) (by decide) (by decide) (tb 265 (by decide +kernel) rfl) (tn 280 (by decide +kernel) rfl) (i := 4) (Or.inl ⟨dc_L_lock_13, rfl⟩) (by decide) (by simp) ?_
      refine th_iconst (v := 1) C dc_L_lock_15 th_c_1 ?_
      exact th_iret C hQ dc_L_lock_16 (by decide) (by decide) ⟨_, _, rfl, rfl, th_Inv_fr (th_mono hJ (by omega) (by omega)) (fun _ _ _ _ => rfl), fun t i k q => hJ.2.2.2 t i k (by omega)⟩
  · obtain ⟨hJ, pk⟩ := pk
    refine th_lst (mu := th_m J) (n := 0) C dc_L_lock_8 dc_L_lock_9 (show 0 < 1 from by omega) rfl (fun _ => rfl) (th_ixN th_l_0 (by decide) (show 0 < 1 from by omega)) ?_
    refine th_goto (tgt := 17) C dc_L_lock_10 (by decide) ?_
    refine th_iconst (v := 0) C dc_L_lock_17 th_c_0 ?_
    exact th_iret C hQ dc_L_lock_18 (by decide) (by decide) ⟨_, th_u J 17 0 0 x, rfl, rfl, th_Inv_fr (th_mono hJ (by omega) (by omega)) (fun t i k q => th_u_tag (by omega)), fun t i k q => (th_u_tag (by omega)).trans (hJ.2.2.2 t i k (by omega))⟩

set_option maxRecDepth 100000 in
set_option maxHeartbeats 4000000 in
theorem q_said (l : Launch) (hl : l.stackTraces = false) {K sl : Int} (I : th_I) (k : Int32) (hI : th_Inv K sl I I) (hK : K + 800 ≤ 1000000) : th_FW l yn_L_said cb_L_said 4 (some .int) [(0, 9, 12, 17)] { frames := 7, cells := 1, slots := 6, locals := 110 } [.inr (some (0, 0)), .inl k, .inr (some (17, 0))] (th_m I) (th_ri (fun k J => th_Inv (K + 800) sl J J ∧ ∀ t i k, 20 ≤ t → J t i k = I t i k)) := by
  have hb := hI.2.2.1
  refine th_ofW hl (by decide +kernel) (Nat.le_of_ble_eq_true rfl) (fun z C hQ => ?_)
  show th_G l z 4 0 [(0, .inr (some (0, 0))), (1, .inl k), (2, .inr (some (17, 0)))] [] (th_m I) 0 0
  refine th_aload_n C dc_L_said_0 rfl rfl ?_
  refine th_iconst (v := 0) C dc_L_said_1 th_c_0 ?_
  refine th_aload_n C dc_L_said_2 rfl rfl ?_
  refine th_iload_n C dc_L_said_3 rfl rfl ?_
  refine tq_callVm C (c_H_said l hl I k hI ) ok_L_48 cl_0 (show 0 < 1 from by omega) rfl (Nat.le_of_ble_eq_true rfl) dc_L_said_4 rfl (fun E J pE => ?_) (fun x J pk => ?_)
  · obtain ⟨hJ, pE⟩ := pE
    rcases pE with rfl
    · refine th_catchX (name := "java/lang/IndexOutOfBoundsException") (pre := []) (x := ⟨0, 9, 12, 17⟩) C rfl (fun q h => nomatch h) (by decide) (by decide) (tb 267 (by decide +kernel) rfl) (tn 372 (by decide +kernel) rfl) (i := 3) (Or.inr ⟨3, dc_L_said_12, rfl, rfl⟩) (by decide) (by simp) ?_
      refine th_iconst (v := 1) C dc_L_said_13 th_c_1 ?_
      exact th_iret C hQ dc_L_said_14 (by decide) (by decide) ⟨_, _, rfl, rfl, th_Inv_fr (th_mono hJ (by omega) (by omega)) (fun _ _ _ _ => rfl), fun t i k q => hJ.2.2.2 t i k (by omega)⟩
  · obtain ⟨hJ, pk⟩ := pk
    refine th_lst (mu := th_m J) (n := 0) C dc_L_said_7 dc_L_said_8 (show 0 < 1 from by omega) rfl (fun _ => rfl) (th_ixN th_l_0 (by decide) (show 0 < 1 from by omega)) ?_
    refine th_goto (tgt := 15) C dc_L_said_9 (by decide) ?_
    refine th_iconst (v := 0) C dc_L_said_15 th_c_0 ?_
    exact th_iret C hQ dc_L_said_16 (by decide) (by decide) ⟨_, th_u J 17 0 0 x, rfl, rfl, th_Inv_fr (th_mono hJ (by omega) (by omega)) (fun t i k q => th_u_tag (by omega)), fun t i k q => (th_u_tag (by omega)).trans (hJ.2.2.2 t i k (by omega))⟩

set_option maxRecDepth 100000 in
set_option maxHeartbeats 4000000 in
theorem q_count (l : Launch) (hl : l.stackTraces = false) {K sl : Int} (I : th_I) (w : Int32) (hI : th_Inv K sl I I) (hK : K + 800 ≤ 1000000) : th_FW l yn_L_count cb_L_count 4 (some .int) [(0, 9, 12, 13)] { frames := 7, cells := 1, slots := 6, locals := 110 } [.inr (some (0, 0)), .inl w, .inr (some (17, 0))] (th_m I) (th_ri (fun k J => th_Inv (K + 800) sl J J ∧ ∀ t i k, 20 ≤ t → J t i k = I t i k)) := by
  have hb := hI.2.2.1
  refine th_ofW hl (by decide +kernel) (Nat.le_of_ble_eq_true rfl) (fun z C hQ => ?_)
  show th_G l z 4 0 [(0, .inr (some (0, 0))), (1, .inl w), (2, .inr (some (17, 0)))] [] (th_m I) 0 0
  refine th_aload_n C dc_L_count_0 rfl rfl ?_
  refine th_iconst (v := 0) C dc_L_count_1 th_c_0 ?_
  refine th_aload_n C dc_L_count_2 rfl rfl ?_
  refine th_iload_n C dc_L_count_3 rfl rfl ?_
  refine tq_callVm C (c_H_count l hl I w hI ) ok_L_51 cl_0 (show 0 < 1 from by omega) rfl (Nat.le_of_ble_eq_true rfl) dc_L_count_4 rfl (fun E J pE => ?_) (fun x J pk => ?_)
  · obtain ⟨hJ, pE⟩ := pE
    rcases pE with rfl
    · refine th_catchX (name := "java/lang/IllegalArgumentException") (pre := []) (x := ⟨0, 9, 12, 13⟩) C rfl (fun q h => nomatch h) (by decide) (by decide) (tb 265 (by decide +kernel) rfl) (tn 280 (by decide +kernel) rfl) (i := 3) (Or.inr ⟨3, dc_L_count_12, rfl, rfl⟩) (by decide) (by simp) ?_
      refine th_iconst (v := 1) C dc_L_count_13 th_c_1 ?_
      exact th_iret C hQ dc_L_count_14 (by decide) (by decide) ⟨_, _, rfl, rfl, th_Inv_fr (th_mono hJ (by omega) (by omega)) (fun _ _ _ _ => rfl), fun t i k q => hJ.2.2.2 t i k (by omega)⟩
  · obtain ⟨hJ, pk⟩ := pk
    refine th_lst (mu := th_m J) (n := 0) C dc_L_count_7 dc_L_count_8 (show 0 < 1 from by omega) rfl (fun _ => rfl) (th_ixN th_l_0 (by decide) (show 0 < 1 from by omega)) ?_
    refine th_goto (tgt := 15) C dc_L_count_9 (by decide) ?_
    refine th_iconst (v := 0) C dc_L_count_15 th_c_0 ?_
    exact th_iret C hQ dc_L_count_16 (by decide) (by decide) ⟨_, th_u J 17 0 0 x, rfl, rfl, th_Inv_fr (th_mono hJ (by omega) (by omega)) (fun t i k q => th_u_tag (by omega)), fun t i k q => (th_u_tag (by omega)).trans (hJ.2.2.2 t i k (by omega))⟩

