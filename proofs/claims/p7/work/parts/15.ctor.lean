def th_cln (mu : th_M) : Prop := mu.2.2.2.1 = th_L0 ∧ ∀ t i k, mu.1 t ≤ i → mu.2.1 t i k = 0 ∧ mu.2.2.1 t i k = none
def th_pr (mu : th_M) (t i k : Nat) (v : Nat × Nat) : th_M := (mu.1, mu.2.1, th_ur mu.2.2.1 t i k (some v), mu.2.2.2)
def th_pi (mu : th_M) (t i k : Nat) (v : Int32) : th_M := (mu.1, th_u mu.2.1 t i k v, mu.2.2)
theorem th_cln_mk {mu : th_M} {t i : Nat} (h : th_cln mu) (hi : mu.1 t = i) : th_cln (th_mk mu t i) := by
  refine ⟨h.1, fun t' i' k q => h.2 t' i' k ?_⟩
  have q : (if t' = t then i + 1 else mu.1 t') ≤ i' := q
  by_cases e : t' = t
  · rw [if_pos e] at q
    rw [e, hi]
    omega
  · rw [if_neg e] at q
    exact q
theorem th_cln_pi {mu : th_M} {t i k : Nat} {v : Int32} (h : th_cln mu) (hi : i < mu.1 t) : th_cln (th_pi mu t i k v) := by
  refine ⟨h.1, fun t' i' k' q => ⟨?_, (h.2 t' i' k' q).2⟩⟩
  show th_u mu.2.1 t i k v t' i' k' = 0
  rcases th_u_or mu.2.1 t i k v t' i' k' with ⟨rfl, rfl, -, -⟩ | e
  · exact absurd q (Nat.not_le.mpr hi)
  · rw [e]; exact (h.2 t' i' k' q).1
theorem th_cln_pr {mu : th_M} {t i k : Nat} {v : Nat × Nat} (h : th_cln mu) (hi : i < mu.1 t) : th_cln (th_pr mu t i k v) := by
  refine ⟨h.1, fun t' i' k' q => ⟨(h.2 t' i' k' q).1, ?_⟩⟩
  show th_ur mu.2.2.1 t i k (some v) t' i' k' = none
  rw [th_ur_ne]
  · exact (h.2 t' i' k' q).2
  · rintro ⟨rfl, rfl⟩
    exact absurd q (Nat.not_le.mpr hi)
theorem th_hz {mu : th_M} {t i N : Nat} {ty : Nat → FieldType} (h : th_cln mu) (hi : mu.1 t = i) (hd : ∀ k, k < N → (th_fr t k = true ∧ defaultValue (ty k) = .null) ∨ (th_fr t k = false ∧ defaultValue (ty k) = .int 0)) : ∀ k, k < N → (th_fr t k = true ∧ defaultValue (ty k) = .null ∧ mu.2.2.1 t i k = none) ∨ (th_fr t k = false ∧ defaultValue (ty k) = .int 0 ∧ mu.2.1 t i k = 0) := by
  intro k hk
  rcases hd k hk with ⟨a, b⟩ | ⟨a, b⟩
  · exact Or.inl ⟨a, b, (h.2 t i k (Nat.le_of_eq hi)).2⟩
  · exact Or.inr ⟨a, b, (h.2 t i k (Nat.le_of_eq hi)).1⟩
def m_R (mu : th_M) (r : Nat) : th_M := th_pr (th_mk mu 15 r) 14 r 0 (15, r)
def m_P (mu : th_M) (t : Nat) : th_M := th_pr (th_mk (th_pr (th_mk (th_pr (th_mk mu 8 t) 7 t 0 (8, t)) 9 t) 7 t 1 (9, t)) 10 t) 7 t 2 (10, t)
def m_Q (mu : th_M) (j : Nat) : th_M := th_pr (th_mk (th_pr (th_mk mu 12 j) 11 j 0 (12, j)) 13 j) 11 j 1 (13, j)
def m_M (mu : th_M) (m : Nat) : th_M := th_pi (th_pr (m_R (th_mk mu 14 (5 + m)) (5 + m)) 16 m 0 (14, 5 + m)) 16 m 1 (-1)
def m_S1 (mu : th_M) (t : Nat) : th_M := th_pr (m_P (th_mk mu 7 t) t) 6 t 1 (7, t)
def m_S2 (mu : th_M) (t : Nat) : th_M := th_pr (m_Q (th_mk (m_S1 mu t) 11 (2 * t)) (2 * t)) 6 t 2 (11, 2 * t)
def m_S3 (mu : th_M) (t : Nat) : th_M := th_pr (m_Q (th_mk (m_S2 mu t) 11 (2 * t + 1)) (2 * t + 1)) 6 t 3 (11, 2 * t + 1)
def m_S4 (mu : th_M) (t : Nat) : th_M := th_pr (m_R (th_mk (m_S3 mu t) 14 t) t) 6 t 4 (14, t)
def m_S (mu : th_M) (t : Nat) (v : Int32) : th_M := th_pi (th_pi (th_pi (m_S4 mu t) 6 t 5 0) 6 t 8 24) 6 t 0 v
abbrev th_fin (m1 : th_M) : th_P := fun o mu' => o = .inl none ∧ mu' = m1
theorem th_finX (m1 : th_M) : ∀ E mu', ¬ th_fin m1 (.inr E) mu' := fun E mu' h => nomatch h.1

set_option maxRecDepth 100000 in
set_option maxHeartbeats 4000000 in
theorem k_R (l : Launch) (hl : l.stackTraces = false) (mu : th_M) (r n : Nat) (hc : th_cln mu) (h14 : r < mu.1 14) (h15 : mu.1 15 = r) (hn : mu.2.2.2.2 = n + 1) (ha : th_ad 15 r = n) : th_F l yn_R_init cb_R_init 1 none { frames := 1, cells := 1, slots := 5, locals := 13 } [.inr (some (14, r))] mu (th_fin (m_R mu r)) := by
  refine th_of hl (by decide +kernel) (Nat.le_of_ble_eq_true rfl) (fun z C hQ hN => ?_)
  refine th_aload_n C dc_R_init_0 rfl rfl ?_
  refine th_objInit C dc_R_init_1 (tb 124 (by decide +kernel) rfl) oi_1 oi_2 (by decide) (by decide) ?_
  refine th_aload_n C dc_R_init_4 rfl rfl ?_
  refine th_iconst (v := 5) C dc_R_init_5 th_c_5 ?_
  refine th_newa (mu := mu) (t := 15) (i := r) (N := 5) C dc_R_init_6 (Or.inl ⟨rfl, rfl⟩) rfl (fun _ => rfl) ac_int (by decide) rfl (by decide) hn h15 (by decide) ha (by rw [(hc).1]; rfl) (fun k => ((hc).2 15 r k (Nat.le_of_eq h15)).1) (by decide) (by decide) ?_
  refine th_putR (mu := th_mk mu 15 r) C dc_R_init_8 cl_14 fd_R_9 (h14) rfl rfl hN rfl rfl (fun _ => rfl) (fun _ => rfl) ?_
  exact th_vret C hQ dc_R_init_11 (by decide) (by decide) ⟨rfl, rfl⟩

set_option maxRecDepth 100000 in
set_option maxHeartbeats 4000000 in
theorem k_P (l : Launch) (hl : l.stackTraces = false) (mu : th_M) (t n : Nat) (hc : th_cln mu) (h7 : t < mu.1 7) (h8 : mu.1 8 = t) (h9 : mu.1 9 = t) (h10 : mu.1 10 = t) (hn : mu.2.2.2.2 = n + 1) (ha : n = 4 + 13 * t) : th_F l yn_P_init cb_P_init 1 none { frames := 1, cells := 3, slots := 72, locals := 13 } [.inr (some (7, t))] mu (th_fin (m_P mu t)) := by
  have c1 : th_cln (th_pr (th_mk mu 8 t) 7 t 0 (8, t)) := th_cln_pr (th_cln_mk hc h8) h7
  have c2 : th_cln (th_pr (th_mk (th_pr (th_mk mu 8 t) 7 t 0 (8, t)) 9 t) 7 t 1 (9, t)) := th_cln_pr (th_cln_mk c1 h9) h7
  refine th_of hl (by decide +kernel) (Nat.le_of_ble_eq_true rfl) (fun z C hQ hN => ?_)
  refine th_aload_n C dc_P_init_0 rfl rfl ?_
  refine th_objInit C dc_P_init_1 (tb 80 (by decide +kernel) rfl) oi_1 oi_2 (by decide) (by decide) ?_
  refine th_aload_n C dc_P_init_4 rfl rfl ?_
  refine th_bipush (v := 24) C dc_P_init_5 th_b_24 ?_
  refine th_newa (mu := mu) (t := 8) (i := t) (N := 24) C dc_P_init_7 (Or.inl ⟨rfl, rfl⟩) rfl (fun _ => rfl) ac_int (by decide) rfl (by decide) hn h8 (by decide) (show 4 + 13 * t = n by omega) (by rw [(hc).1]; rfl) (fun k => ((hc).2 8 t k (Nat.le_of_eq h8)).1) (by decide) (by decide) ?_
  refine th_putR (mu := th_mk mu 8 t) C dc_P_init_9 cl_7 fd_P_9 (h7) rfl rfl hN rfl rfl (fun _ => rfl) (fun _ => rfl) ?_
  refine th_aload_n C dc_P_init_12 rfl rfl ?_
  refine th_bipush (v := 24) C dc_P_init_13 th_b_24 ?_
  refine th_newa (mu := th_pr (th_mk mu 8 t) 7 t 0 (8, t)) (t := 9) (i := t) (N := 24) C dc_P_init_15 (Or.inl ⟨rfl, rfl⟩) rfl (fun _ => rfl) ac_int (by decide) rfl (by decide) (show mu.2.2.2.2 + 1 = (n + 1) + 1 by omega) h9 (by decide) (show 5 + 13 * t = n + 1 by omega) (by rw [(c1).1]; rfl) (fun k => ((c1).2 9 t k (Nat.le_of_eq h9)).1) (by decide) (by decide) ?_
  refine th_putR (mu := th_mk (th_pr (th_mk mu 8 t) 7 t 0 (8, t)) 9 t) C dc_P_init_17 cl_7 fd_P_15 (h7) rfl rfl hN rfl rfl (fun _ => rfl) (fun _ => rfl) ?_
  refine th_aload_n C dc_P_init_20 rfl rfl ?_
  refine th_bipush (v := 24) C dc_P_init_21 th_b_24 ?_
  refine th_newa (mu := th_pr (th_mk (th_pr (th_mk mu 8 t) 7 t 0 (8, t)) 9 t) 7 t 1 (9, t)) (t := 10) (i := t) (N := 24) C dc_P_init_23 (Or.inl ⟨rfl, rfl⟩) rfl (fun _ => rfl) ac_int (by decide) rfl (by decide) (show mu.2.2.2.2 + 1 + 1 = (n + 2) + 1 by omega) h10 (by decide) (show 6 + 13 * t = n + 2 by omega) (by rw [(c2).1]; rfl) (fun k => ((c2).2 10 t k (Nat.le_of_eq h10)).1) (by decide) (by decide) ?_
  refine th_putR (mu := th_mk (th_pr (th_mk (th_pr (th_mk mu 8 t) 7 t 0 (8, t)) 9 t) 7 t 1 (9, t)) 10 t) C dc_P_init_25 cl_7 fd_P_18 (h7) rfl rfl hN rfl rfl (fun _ => rfl) (fun _ => rfl) ?_
  exact th_vret C hQ dc_P_init_28 (by decide) (by decide) ⟨rfl, rfl⟩

theorem th_lp_12 (j : Nat) : th_lp j ≤ 12 := by
  unfold th_lp
  split <;> decide
set_option maxRecDepth 100000 in
set_option maxHeartbeats 4000000 in
theorem k_Q (l : Launch) (hl : l.stackTraces = false) (mu : th_M) (j n : Nat) (x : Int32) (hx : ¬ x < 0) (hxN : x.toNatClampNeg = th_lp j) (hc : th_cln mu) (h11 : j < mu.1 11) (h12 : mu.1 12 = j) (h13 : mu.1 13 = j) (hn : mu.2.2.2.2 = n + 1) (ha : n = 8 + 13 * (j / 2) + 3 * (j % 2)) : th_F l yn_Q_init cb_Q_init 2 none { frames := 1, cells := 2, slots := 24, locals := 13 } [.inr (some (11, j)), .inl x] mu (th_fin (m_Q mu j)) := by
  have c1 : th_cln (th_pr (th_mk mu 12 j) 11 j 0 (12, j)) := th_cln_pr (th_cln_mk hc h12) h11
  have hlp := th_lp_12 j
  refine th_of hl (by decide +kernel) (Nat.le_of_ble_eq_true rfl) (fun z C hQ hN => ?_)
  refine th_aload_n C dc_Q_init_0 rfl rfl ?_
  refine th_objInit C dc_Q_init_1 (tb 104 (by decide +kernel) rfl) oi_1 oi_2 (by decide) (by decide) ?_
  refine th_aload_n C dc_Q_init_4 rfl rfl ?_
  refine th_iload_n C dc_Q_init_5 rfl rfl ?_
  refine th_newa (mu := mu) (t := 12) (i := j) (N := th_lp j) C dc_Q_init_6 (Or.inl ⟨rfl, rfl⟩) rfl (fun _ => rfl) ac_int hx hxN (by omega) hn h12 (by decide) (show 8 + 13 * (j / 2) + 3 * (j % 2) = n by omega) (by rw [hc.1]; rfl) (fun k => (hc.2 12 j k (Nat.le_of_eq h12)).1) (by decide) (show 0 + th_lp j ≤ 24 by omega) ?_
  refine th_widen C (kc' := 1) (ks' := 12) (by decide) (by omega) ?_
  refine th_putR (mu := th_mk mu 12 j) C dc_Q_init_8 cl_11 fd_Q_9 (h11) rfl rfl hN rfl rfl (fun _ => rfl) (fun _ => rfl) ?_
  refine th_aload_n C dc_Q_init_11 rfl rfl ?_
  refine th_iload_n C dc_Q_init_12 rfl rfl ?_
  refine th_newa (mu := th_pr (th_mk mu 12 j) 11 j 0 (12, j)) (t := 13) (i := j) (N := th_lp j) C dc_Q_init_13 (Or.inl ⟨rfl, rfl⟩) rfl (fun _ => rfl) ac_int hx hxN (by omega) (show mu.2.2.2.2 + 1 = (n + 1) + 1 by omega) h13 (by decide) (show 9 + 13 * (j / 2) + 3 * (j % 2) = n + 1 by omega) (by rw [c1.1]; rfl) (fun k => (c1.2 13 j k (Nat.le_of_eq h13)).1) (by decide) (show 12 + th_lp j ≤ 24 by omega) ?_
  refine th_widen C (kc' := 2) (ks' := 24) (by decide) (by omega) ?_
  refine th_putR (mu := th_mk (th_pr (th_mk mu 12 j) 11 j 0 (12, j)) 13 j) C dc_Q_init_15 cl_11 fd_Q_15 (h11) rfl rfl hN rfl rfl (fun _ => rfl) (fun _ => rfl) ?_
  exact th_vret C hQ dc_Q_init_18 (by decide) (by decide) ⟨rfl, rfl⟩

