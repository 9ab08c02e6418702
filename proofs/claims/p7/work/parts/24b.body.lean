set_option maxRecDepth 100000 in
set_option maxHeartbeats 4000000 in
theorem law_body (l : Launch) (hl : l.stackTraces = false) {z : th_Z} {rt : Option FieldType} {tb0 : List ExceptionTableEntry} {L : Nat} {xs : Nat → Int32} (C : th_C l z cb_L_law 7 rn_L room_1 rt tb0) (hX : th_SX z L xs) (hL : L ≤ 2560)
    (hend : ∀ pc lv mu kc ks, decode cb_L_law pc = .ok (.ireturn, 1) → kc ≤ 613031 → ks ≤ 7257012 → th_G l z 7 pc lv [.inl 1] mu kc ks) : th_G l z 7 0 [(0, .inr (some (90, 0)))] [] hm_0 0 0 := by
  refine th_new (mu := hm_0) (t := 0) (i := 0) (n := 0) C dc_L_law_0 cl_0 (tb 60 (by decide +kernel) rfl) (tb 61 (by decide +kernel) rfl) (tb 47 (by decide +kernel) rfl) (by decide +kernel) (by decide +kernel) (by decide) (by decide +kernel) (th_hz hc_0 (by decide +kernel) hd_0) (by decide) (by decide) ?_
  change th_G l z _ _ _ _ hm_1 _ _
  refine th_dup C dc_L_law_3 ?_
  refine tk_callI (m1 := hm_46) C (k_H l hl) okI_L_54 rfl (Nat.le_of_ble_eq_true rfl) dc_L_law_4 rfl ?_
  refine th_astore_n (lv' := [(0, .inr (some (90, 0))), (1, .inr (some (0, 0)))]) C dc_L_law_7 rfl (by decide) rfl ?_
  refine th_new (mu := hm_46) (t := 20) (i := 0) (n := 86) C dc_L_law_8 cl_20 (tb 622 (by decide +kernel) rfl) (tb 623 (by decide +kernel) rfl) (tb 53 (by decide +kernel) rfl) (by decide +kernel) (by decide +kernel) (by decide) (by decide +kernel) (th_hz hc_46 (by decide +kernel) hd_20) (by decide) (by decide) ?_
  change th_G l z _ _ _ _ hm_47 _ _
  refine th_dup C dc_L_law_11 ?_
  refine tk_callI (m1 := hm_123) C (k_O l hl) okI_L_57 rfl (Nat.le_of_ble_eq_true rfl) dc_L_law_12 rfl ?_
  refine th_astore_n (lv' := [(0, .inr (some (90, 0))), (1, .inr (some (0, 0))), (2, .inr (some (20, 0)))]) C dc_L_law_15 rfl (by decide) rfl ?_
  refine th_iconst (v := 1) C dc_L_law_16 th_c_1 ?_
  refine th_newl (mu := hm_123) (t := 17) (i := 0) (N := 1) (n := 120) C dc_L_law_17 rfl (fun _ => rfl) (tb 884 (by decide +kernel) rfl) (by decide) (by decide) (by decide) (by decide +kernel) (by decide +kernel) (by decide) (by decide +kernel) (by rw [hc_123.1]; rfl) (fun k => (hc_123.2 17 0 k (by decide +kernel)).1) (by decide) (by decide) ?_
  refine th_astore_n (lv' := [(0, .inr (some (90, 0))), (1, .inr (some (0, 0))), (2, .inr (some (20, 0))), (3, .inr (some (17, 0)))]) C dc_L_law_19 rfl (by decide) rfl ?_
  refine th_conv ?_
  refine th_iconst (v := 0) C dc_L_law_20 th_c_0 ?_
  refine th_istore (lv' := [(0, .inr (some (90, 0))), (1, .inr (some (0, 0))), (2, .inr (some (20, 0))), (3, .inr (some (17, 0))), (4, .inl (0 : Int32))]) C dc_L_law_21 (by decide) rfl ?_
  refine th_Gw (kc' := 121 + 24 * 0) (ks' := 1649 + 240 * 0) (by decide) (by decide) ?_
  exact law_loop l hl C hX hL hend _ 0 0 th_I0 4 (Nat.lt_succ_self _) (by have := th_l_0; omega) (by decide) (show th_Inv (800 * ((0 : Nat) : Int)) 4 th_I0 th_I0 from hth_I0) (show th_OI (800 * ((0 : Nat) : Int)) 4 th_I0 th_I0 from th_OI0)

