theorem okN_M_11 : th_okN rn_M 11 "ThreadHall" yn_R_init cb_R_init 1 0 := ⟨⟨(tb 123 (by decide +kernel) rfl), (tb 51 (by decide +kernel) rfl), (tn 208 (by decide +kernel) rfl), by decide, by decide, by decide⟩, rfl, (tb 122 (by decide +kernel) rfl)⟩

theorem okN_S_11 : th_okN rn_S 11 "ThreadHall" yn_P_init cb_P_init 1 0 := ⟨⟨(tb 79 (by decide +kernel) rfl), (tb 49 (by decide +kernel) rfl), (tn 77 (by decide +kernel) rfl), by decide, by decide, by decide⟩, rfl, (tb 78 (by decide +kernel) rfl)⟩

theorem okN_S_32 : th_okN rn_S 32 "ThreadHall" yn_R_init cb_R_init 1 0 := ⟨⟨(tb 123 (by decide +kernel) rfl), (tb 51 (by decide +kernel) rfl), (tn 121 (by decide +kernel) rfl), by decide, by decide, by decide⟩, rfl, (tb 122 (by decide +kernel) rfl)⟩

theorem okN_H_24 : th_okN rn_H 24 "ThreadHall" yn_M_init cb_M_init 1 0 := ⟨⟨(tb 205 (by decide +kernel) rfl), (tb 52 (by decide +kernel) rfl), (tn 203 (by decide +kernel) rfl), by decide, by decide, by decide⟩, rfl, (tb 204 (by decide +kernel) rfl)⟩

theorem okN_H_31 : th_okN rn_H 31 "ThreadHall" yn_R_init cb_R_init 1 0 := ⟨⟨(tb 123 (by decide +kernel) rfl), (tb 51 (by decide +kernel) rfl), (tn 224 (by decide +kernel) rfl), by decide, by decide, by decide⟩, rfl, (tb 122 (by decide +kernel) rfl)⟩

theorem okI_S_20 : th_okI rn_S 20 yn_Q_init cb_Q_init 2 1 := ⟨⟨(tb 103 (by decide +kernel) rfl), (tb 50 (by decide +kernel) rfl), (tb 101 (by decide +kernel) rfl), by decide, by decide, by decide⟩, rfl, (tb 102 (by decide +kernel) rfl)⟩

theorem okI_H_15 : th_okI rn_H 15 yn_S_init cb_S_init 2 1 := ⟨⟨(tb 73 (by decide +kernel) rfl), (tb 48 (by decide +kernel) rfl), (tb 71 (by decide +kernel) rfl), by decide, by decide, by decide⟩, rfl, (tb 72 (by decide +kernel) rfl)⟩

theorem okI_L_54 : th_okI rn_L 54 yn_H_init cb_H_init 2 0 := ⟨⟨(tb 64 (by decide +kernel) rfl), (tb 47 (by decide +kernel) rfl), (tb 62 (by decide +kernel) rfl), by decide, by decide, by decide⟩, rfl, (tb 63 (by decide +kernel) rfl)⟩

theorem okI_L_57 : th_okI rn_L 57 yn_O_init cb_O_init 2 0 := ⟨⟨(tb 626 (by decide +kernel) rfl), (tb 53 (by decide +kernel) rfl), (tb 624 (by decide +kernel) rfl), by decide, by decide, by decide⟩, rfl, (tb 625 (by decide +kernel) rfl)⟩

section TK
variable {l : Launch} {z : th_Z} {cc : ByteArray} {nL pc kc ks : Nat} {own : String} {rm : Room} {ret : Option FieldType} {tb : List ExceptionTableEntry} {lv : List (Nat × th_V)} {st : List th_V} {mu : th_M}
theorem tk_putI (C : th_C l z cc nL own rm ret tb) {t i ci ix kf N : Nat} {Cn : String} {T : u_T} {ty : Nat → FieldType} {v : Int32} (hd : decode cc pc = .ok (.putfield ix, 3)) (K : th_cl t ci Cn T N ty) (F : th_fd own ix T N kf) (hi : i < mu.1 t) (hr : th_fr t kf = false) (hfin : (T kf).2.2.2 = false) (hty : ty kf = .int)
    (k : th_G l z nL (pc + 3) lv st (th_pi mu t i kf v) kc ks) : th_G l z nL pc lv (.inl v :: .inr (some (t, i)) :: st) mu kc ks :=
  th_putI (mu := mu) C hd hi K.1 K.2.1 K.2.2.1 ty K.2.2.2.1 K.2.2.2.2 F.1 hr F.2 hfin (by rw [hty]; rfl) (by rw [hty]; rfl) k
theorem tk_callN {y : MethodName} {cy : ByteArray} {mL : Nat} {rmy : Room} {as : List th_V} {m1 : th_M} {q : Nat × Nat} {ix : Nat} {host : String} {stk : List th_V} (C : th_C l z cc nL own rm ret tb)
    (hM : th_F l y cy mL none rmy (.inr (some q) :: as) mu (th_fin m1)) (ok : th_okN own ix host y cy mL as.length) (hrm : th_okR rmy rm mL kc ks = true) (hst : st.length ≤ 8) (hd : decode cc pc = .ok (.invokespecial ix, 3)) (hstk : as.reverse ++ .inr (some q) :: st = stk)
    (k : th_G l z nL (pc + 3) lv st m1 (kc + rmy.cells) (ks + rmy.slots)) : th_G l z nL pc lv stk mu kc ks :=
  th_callN C hM (th_finX m1) ok hrm hst hd hstk (fun v mu' h => by obtain ⟨hv, rfl⟩ := h; cases hv; exact k)
theorem tk_callI {y : MethodName} {cy : ByteArray} {mL : Nat} {rmy : Room} {as : List th_V} {m1 : th_M} {q : Nat × Nat} {ix : Nat} {stk : List th_V} (C : th_C l z cc nL own rm ret tb)
    (hM : th_F l y cy mL none rmy (.inr (some q) :: as) mu (th_fin m1)) (ok : th_okI own ix y cy mL as.length) (hrm : th_okR rmy rm mL kc ks = true) (hst : st.length ≤ 8) (hd : decode cc pc = .ok (.invokespecial ix, 3)) (hstk : as.reverse ++ .inr (some q) :: st = stk)
    (k : th_G l z nL (pc + 3) lv st m1 (kc + rmy.cells) (ks + rmy.slots)) : th_G l z nL pc lv stk mu kc ks :=
  th_callI C hM (th_finX m1) ok hrm hst hd hstk (fun v mu' h => by obtain ⟨hv, rfl⟩ := h; cases hv; exact k)
end TK
theorem th_ad14_r (r : Nat) (h : r < 5) : th_ad 14 r = 13 + 13 * r := by
  show (if r < 5 then _ else _) = _
  rw [if_pos h]
theorem th_ad15_r (r : Nat) (h : r < 5) : th_ad 15 r = 14 + 13 * r := by
  show (if r < 5 then _ else _) = _
  rw [if_pos h]
theorem th_ad14_m (m : Nat) (h : m < 3) : th_ad 14 (5 + m) = 69 + 3 * m := by
  show (if 5 + m < 5 then _ else if 5 + m < 8 then _ else _) = _
  rw [if_neg (by omega), if_pos (by omega)]
  omega
theorem th_ad15_m (m : Nat) (h : m < 3) : th_ad 15 (5 + m) = 70 + 3 * m := by
  show (if 5 + m < 5 then _ else if 5 + m < 8 then _ else _) = _
  rw [if_neg (by omega), if_pos (by omega)]
  omega

set_option maxRecDepth 100000 in
set_option maxHeartbeats 4000000 in
theorem k_M (l : Launch) (hl : l.stackTraces = false) (mu : th_M) (m n : Nat) (hm : m < 3) (hc : th_cln mu) (h16 : m < mu.1 16) (h14 : mu.1 14 = 5 + m) (h15 : mu.1 15 = 5 + m) (hn : mu.2.2.2.2 = n + 1) (ha : n = 69 + 3 * m) : th_F l yn_M_init cb_M_init 1 none { frames := 2, cells := 2, slots := 7, locals := 40 } [.inr (some (16, m))] mu (th_fin (m_M mu m)) := by
  have e1 := th_ad14_m m hm
  have e2 := th_ad15_m m hm
  refine th_of hl (by decide +kernel) (Nat.le_of_ble_eq_true rfl) (fun z C hQ hN => ?_)
  refine th_aload_n C dc_M_init_0 rfl rfl ?_
  refine th_objInit C dc_M_init_1 (tb 206 (by decide +kernel) rfl) oi_1 oi_2 (by decide) (by decide) ?_
  refine th_aload_n C dc_M_init_4 rfl rfl ?_
  refine th_new (mu := mu) (t := 14) (i := 5 + m) C dc_M_init_5 cl_14 (tb 207 (by decide +kernel) rfl) (tb 120 (by decide +kernel) rfl) (tb 51 (by decide +kernel) rfl) hn h14 (by decide) (by omega) (th_hz hc h14 hd_14) (by decide) (by decide) ?_
  refine th_dup C dc_M_init_8 ?_
  refine tk_callN C (k_R l hl (th_mk mu 14 (5 + m)) (5 + m) (n + 1) (th_cln_mk hc h14) (Nat.lt_succ_self (5 + m)) h15 (show mu.2.2.2.2 + 1 = n + 1 + 1 by omega) (by omega)) okN_M_11 rfl (Nat.le_of_ble_eq_true rfl) dc_M_init_9 rfl ?_
  refine th_putR (mu := m_R (th_mk mu 14 (5 + m)) (5 + m)) C dc_M_init_12 cl_16 fd_M_12 h16 rfl rfl hN rfl rfl (fun _ => rfl) (fun _ => rfl) ?_
  refine th_aload_n C dc_M_init_15 rfl rfl ?_
  refine th_iconst (v := -1) C dc_M_init_16 th_c_m1 ?_
  refine tk_putI (mu := th_pr (m_R (th_mk mu 14 (5 + m)) (5 + m)) 16 m 0 (14, 5 + m)) C dc_M_init_17 cl_16 fd_M_18 h16 rfl rfl rfl ?_
  exact th_vret C hQ dc_M_init_20 (by decide) (by decide) ⟨rfl, rfl⟩

set_option maxRecDepth 100000 in
set_option maxHeartbeats 4000000 in
theorem k_S (l : Launch) (hl : l.stackTraces = false) (mu : th_M) (t n : Nat) (v : Int32) (ht : t < 5) (hc : th_cln mu) (h6 : t < mu.1 6) (h7 : mu.1 7 = t) (h8 : mu.1 8 = t) (h9 : mu.1 9 = t) (h10 : mu.1 10 = t) (h11 : mu.1 11 = 2 * t) (h12 : mu.1 12 = 2 * t) (h13 : mu.1 13 = 2 * t) (h14 : mu.1 14 = t) (h15 : mu.1 15 = t) (hn : mu.2.2.2.2 = n + 1) (ha : n = 3 + 13 * t) : th_F l yn_S_init cb_S_init 2 none { frames := 2, cells := 12, slots := 137, locals := 40 } [.inr (some (6, t)), .inl v] mu (th_fin (m_S mu t v)) := by
  have q1 : 2 * t / 2 = t := by omega
  have q2 : 2 * t % 2 = 0 := by omega
  have q3 : (2 * t + 1) / 2 = t := by omega
  have q4 : (2 * t + 1) % 2 = 1 := by omega
  have p1 : th_lp (2 * t) = 12 := by unfold th_lp; rw [if_pos q2]
  have p2 : th_lp (2 * t + 1) = 4 := by unfold th_lp; rw [if_neg (by omega)]
  have e1 := th_ad14_r t ht
  have e2 := th_ad15_r t ht
  have a1 : th_cln (th_mk mu 7 t) := th_cln_mk hc h7
  have k7 : t < (th_mk mu 7 t).1 7 := Nat.lt_succ_self t
  have a2 : th_cln (m_P (th_mk mu 7 t) t) := th_cln_pr (th_cln_mk (th_cln_pr (th_cln_mk (th_cln_pr (th_cln_mk a1 h8) k7) h9) k7) h10) k7
  have a3 : th_cln (m_S1 mu t) := th_cln_pr a2 h6
  have a4 : th_cln (th_mk (m_S1 mu t) 11 (2 * t)) := th_cln_mk a3 h11
  have k11 : 2 * t < (th_mk (m_S1 mu t) 11 (2 * t)).1 11 := Nat.lt_succ_self _
  have a5 : th_cln (m_Q (th_mk (m_S1 mu t) 11 (2 * t)) (2 * t)) := th_cln_pr (th_cln_mk (th_cln_pr (th_cln_mk a4 h12) k11) h13) k11
  have a6 : th_cln (m_S2 mu t) := th_cln_pr a5 h6
  have a7 : th_cln (th_mk (m_S2 mu t) 11 (2 * t + 1)) := th_cln_mk a6 rfl
  have k11b : 2 * t + 1 < (th_mk (m_S2 mu t) 11 (2 * t + 1)).1 11 := Nat.lt_succ_self _
  have a8 : th_cln (m_Q (th_mk (m_S2 mu t) 11 (2 * t + 1)) (2 * t + 1)) := th_cln_pr (th_cln_mk (th_cln_pr (th_cln_mk a7 rfl) k11b) rfl) k11b
  have a9 : th_cln (m_S3 mu t) := th_cln_pr a8 h6
  have a10 : th_cln (th_mk (m_S3 mu t) 14 t) := th_cln_mk a9 h14
  refine th_of hl (by decide +kernel) (Nat.le_of_ble_eq_true rfl) (fun z C hQ hN => ?_)
  refine th_aload_n C dc_S_init_0 rfl rfl ?_
  refine th_objInit C dc_S_init_1 (tb 74 (by decide +kernel) rfl) oi_1 oi_2 (by decide) (by decide) ?_
  refine th_aload_n C dc_S_init_4 rfl rfl ?_
  refine th_new (mu := mu) (t := 7) (i := t) C dc_S_init_5 cl_7 (tb 75 (by decide +kernel) rfl) (tb 76 (by decide +kernel) rfl) (tb 49 (by decide +kernel) rfl) hn h7 (by decide) (show 3 + 13 * t = n by omega) (th_hz hc h7 hd_7) (by decide) (by decide) ?_
  refine th_dup C dc_S_init_8 ?_
  refine tk_callN C (k_P l hl (th_mk mu 7 t) t (n + 1) a1 k7 h8 h9 h10 (show mu.2.2.2.2 + 1 = n + 1 + 1 by omega) (by omega)) okN_S_11 rfl (Nat.le_of_ble_eq_true rfl) dc_S_init_9 rfl ?_
  refine th_putR (mu := m_P (th_mk mu 7 t) t) C dc_S_init_12 cl_6 fd_S_12 h6 rfl rfl hN rfl rfl (fun _ => rfl) (fun _ => rfl) ?_
  refine th_aload_n C dc_S_init_15 rfl rfl ?_
  refine th_new (mu := m_S1 mu t) (t := 11) (i := 2 * t) C dc_S_init_16 cl_11 (tb 99 (by decide +kernel) rfl) (tb 100 (by decide +kernel) rfl) (tb 50 (by decide +kernel) rfl) (n := n + 4) (show mu.2.2.2.2 + 1 + 1 + 1 + 1 = n + 4 + 1 by omega) h11 (by decide) (show 7 + 13 * (2 * t / 2) + 3 * (2 * t % 2) = n + 4 by omega) (th_hz a3 h11 hd_11) (by decide) (by decide) ?_
  refine th_dup C dc_S_init_19 ?_
  refine th_bipush (v := 12) C dc_S_init_20 th_b_12 ?_
  refine tk_callI C (k_Q l hl (th_mk (m_S1 mu t) 11 (2 * t)) (2 * t) (n + 5) 12 (by decide) (by rw [p1]; decide) a4 k11 h12 h13 (show mu.2.2.2.2 + 1 + 1 + 1 + 1 + 1 = n + 5 + 1 by omega) (by omega)) okI_S_20 rfl (Nat.le_of_ble_eq_true rfl) dc_S_init_22 rfl ?_
  refine th_putR (mu := m_Q (th_mk (m_S1 mu t) 11 (2 * t)) (2 * t)) C dc_S_init_25 cl_6 fd_S_23 h6 rfl rfl hN rfl rfl (fun _ => rfl) (fun _ => rfl) ?_
  refine th_aload_n C dc_S_init_28 rfl rfl ?_
  refine th_new (mu := m_S2 mu t) (t := 11) (i := 2 * t + 1) C dc_S_init_29 cl_11 (tb 99 (by decide +kernel) rfl) (tb 100 (by decide +kernel) rfl) (tb 50 (by decide +kernel) rfl) (n := n + 7) (show mu.2.2.2.2 + 1 + 1 + 1 + 1 + 1 + 1 + 1 = n + 7 + 1 by omega) rfl (by decide) (show 7 + 13 * ((2 * t + 1) / 2) + 3 * ((2 * t + 1) % 2) = n + 7 by omega) (th_hz a6 rfl hd_11) (by decide) (by decide) ?_
  refine th_dup C dc_S_init_32 ?_
  refine th_iconst (v := 4) C dc_S_init_33 th_c_4 ?_
  refine tk_callI C (k_Q l hl (th_mk (m_S2 mu t) 11 (2 * t + 1)) (2 * t + 1) (n + 8) 4 (by decide) (by rw [p2]; decide) a7 k11b rfl rfl (show mu.2.2.2.2 + 1 + 1 + 1 + 1 + 1 + 1 + 1 + 1 = n + 8 + 1 by omega) (by omega)) okI_S_20 rfl (Nat.le_of_ble_eq_true rfl) dc_S_init_34 rfl ?_
  refine th_putR (mu := m_Q (th_mk (m_S2 mu t) 11 (2 * t + 1)) (2 * t + 1)) C dc_S_init_37 cl_6 fd_S_27 h6 rfl rfl hN rfl rfl (fun _ => rfl) (fun _ => rfl) ?_
  refine th_aload_n C dc_S_init_40 rfl rfl ?_
  refine th_new (mu := m_S3 mu t) (t := 14) (i := t) C dc_S_init_41 cl_14 (tb 119 (by decide +kernel) rfl) (tb 120 (by decide +kernel) rfl) (tb 51 (by decide +kernel) rfl) (n := n + 10) (show mu.2.2.2.2 + 1 + 1 + 1 + 1 + 1 + 1 + 1 + 1 + 1 + 1 = n + 10 + 1 by omega) h14 (by decide) (by omega) (th_hz a9 h14 hd_14) (by decide) (by decide) ?_
  refine th_dup C dc_S_init_44 ?_
  refine tk_callN C (k_R l hl (th_mk (m_S3 mu t) 14 t) t (n + 11) a10 (Nat.lt_succ_self t) h15 (show mu.2.2.2.2 + 1 + 1 + 1 + 1 + 1 + 1 + 1 + 1 + 1 + 1 + 1 = n + 11 + 1 by omega) (by omega)) okN_S_32 rfl (Nat.le_of_ble_eq_true rfl) dc_S_init_45 rfl ?_
  refine th_putR (mu := m_R (th_mk (m_S3 mu t) 14 t) t) C dc_S_init_48 cl_6 fd_S_33 h6 rfl rfl hN rfl rfl (fun _ => rfl) (fun _ => rfl) ?_
  refine th_aload_n C dc_S_init_51 rfl rfl ?_
  refine th_iconst (v := 0) C dc_S_init_52 th_c_0 ?_
  refine tk_putI (mu := m_S4 mu t) C dc_S_init_53 cl_6 fd_S_37 h6 rfl rfl rfl ?_
  refine th_aload_n C dc_S_init_56 rfl rfl ?_
  refine th_bipush (v := 24) C dc_S_init_57 th_b_24 ?_
  refine tk_putI (mu := th_pi (m_S4 mu t) 6 t 5 0) C dc_S_init_59 cl_6 fd_S_41 h6 rfl rfl rfl ?_
  refine th_aload_n C dc_S_init_62 rfl rfl ?_
  refine th_iload_n C dc_S_init_63 rfl rfl ?_
  refine th_putFI (mu := th_pi (th_pi (m_S4 mu t) 6 t 5 0) 6 t 8 24) C dc_S_init_64 cl_6 fd_S_44 h6 rfl rfl hN rfl rfl rfl ?_
  exact th_vret C hQ dc_S_init_67 (by decide) (by decide) ⟨rfl, rfl⟩

