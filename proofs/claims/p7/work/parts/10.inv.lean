theorem th_lp_le (j : Nat) : 4 ≤ (th_lp j : Int) ∧ (th_lp j : Int) ≤ 12 := by
  unfold th_lp
  split <;> decide
theorem th_nI_12 {j : Nat} {x : Int32} (h : nI (th_lp j) = x) : x.toInt = (th_lp j : Int) := by
  subst h
  unfold th_lp
  split <;> decide
def th_ok (K sl : Int) (t i k : Nat) (v : Int) : Prop := match t with
  | 0 => (match k with
    | 5 => 0 ≤ v ∧ v ≤ K
    | 6 => v = sl ∨ 0 < i
    | 7 => -1 ≤ v ∧ v ≤ 4
    | _ => True)
  | 6 => (match k with
    | 0 => v = (i : Int) ∨ 5 ≤ i
    | 6 => 0 ≤ v ∧ v ≤ 24
    | 8 => 0 ≤ v ∧ v ≤ 24
    | 13 => 0 ≤ v ∧ v ≤ 2
    | 14 => 0 ≤ v ∧ v ≤ 2
    | 16 => 0 ≤ v ∧ v ≤ 4
    | 17 => 0 ≤ v ∧ v ≤ 3
    | _ => True)
  | 7 => (match k with
    | 3 => 0 ≤ v ∧ v ≤ 24
    | _ => True)
  | 11 => (match k with
    | 2 => 0 ≤ v ∧ v ≤ (th_lp i : Int)
    | _ => True)
  | 12 => 0 ≤ v ∧ v ≤ 3
  | 14 => (match k with
    | 1 => 0 ≤ v ∧ v ≤ 5
    | _ => True)
  | 15 => 0 ≤ v ∧ v ≤ 4
  | _ => True
def th_valid (o a b : Int) : Prop := (0 ≤ o ∧ o ≤ 20) ∧ (o ≤ 4 ∨ o = 15 ∨ (17 ≤ o ∧ o ≤ 19) → 0 ≤ a ∧ a ≤ 3) ∧ (5 ≤ o ∧ o ≤ 10 → 0 ≤ a ∧ a ≤ 2) ∧ (11 ≤ o ∧ o ≤ 13 → 0 ≤ a ∧ a ≤ 4) ∧ (o = 14 ∨ o = 16 → 0 ≤ a ∧ a ≤ 24) ∧ (o = 2 ∨ o = 7 ∨ o = 12 → 0 ≤ b ∧ b ≤ 3) ∧ (o = 8 → 0 ≤ b ∧ b ≤ 2) ∧ (o = 17 → 0 ≤ b ∧ b ≤ 24)
def th_Inv (K sl : Int) (Z I : th_I) : Prop := (∀ t i k, th_ok K sl t i k (I t i k).toInt) ∧ (∀ i k, th_valid (I 8 i k).toInt (I 9 i k).toInt (I 10 i k).toInt) ∧ (1 ≤ sl ∧ sl ≤ 20 ∧ 0 ≤ K ∧ K ≤ 1000000) ∧ ∀ t i k, 17 ≤ t → I t i k = Z t i k
theorem th_put {K sl : Int} {Z I : th_I} {t i k : Nat} {v : Int32} (hI : th_Inv K sl Z I) (ht : t < 8 ∨ (10 < t ∧ t < 17)) (h : th_ok K sl t i k v.toInt) : th_Inv K sl Z (th_u I t i k v) := by
  obtain ⟨h1, h2, h3, h4⟩ := hI
  refine ⟨fun t' i' k' => ?_, fun i' k' => ?_, h3, fun t' i' k' q => by rw [th_u_tag (by omega)]; exact h4 t' i' k' q⟩
  · rcases th_u_or I t i k v t' i' k' with ⟨rfl, rfl, rfl, e⟩ | e
    · rw [e]; exact h
    · rw [e]; exact h1 t' i' k'
  · rw [th_u_tag (by omega), th_u_tag (by omega), th_u_tag (by omega)]
    exact h2 i' k'
theorem th_ok_mono {K K' sl v : Int} {t i k : Nat} (h : th_ok K sl t i k v) (hK : K ≤ K') : th_ok K' sl t i k v := by
  unfold th_ok at h ⊢
  split at h <;> first | exact h | (split at h <;> first | exact h | exact ⟨h.1, Int.le_trans h.2 hK⟩)
theorem th_mono {K K' sl : Int} {Z I : th_I} (hI : th_Inv K sl Z I) (hK : K ≤ K') (h2 : K' ≤ 1000000) : th_Inv K' sl Z I := by
  obtain ⟨h1, g2, ⟨h3, h4, h5, h6⟩, h7⟩ := hI
  exact ⟨fun t i k => th_ok_mono (h1 t i k) hK, g2, ⟨h3, h4, Int.le_trans h5 hK, h2⟩, h7⟩
theorem th_app {K sl : Int} {Z I : th_I} {i n1 n2 n3 : Nat} {a b c x : Int32} (hI : th_Inv K sl Z I) (h2 : n2 = n1) (h3 : n3 = n1) (hv : th_valid a.toInt b.toInt c.toInt) (hx : 0 ≤ x.toInt ∧ x.toInt ≤ 24) : th_Inv K sl Z (th_u (th_u (th_u (th_u I 8 i n1 a) 9 i n2 b) 10 i n3 c) 7 i 3 x) := by
  subst h2; subst h3
  obtain ⟨g1, g2, g3, g4⟩ := hI
  refine th_put ⟨fun t' i' k' => ?_, fun i' k' => ?_, g3, fun t' i' k' q => by rw [th_u_tag (by omega), th_u_tag (by omega), th_u_tag (by omega)]; exact g4 t' i' k' q⟩ (by decide) hx
  · rcases th_u_or (th_u (th_u I 8 i n3 a) 9 i n3 b) 10 i n3 c t' i' k' with ⟨rfl, rfl, rfl, -⟩ | e
    · exact trivial
    · rw [e]
      rcases th_u_or (th_u I 8 i n3 a) 9 i n3 b t' i' k' with ⟨rfl, rfl, rfl, -⟩ | e
      · exact trivial
      · rw [e]
        rcases th_u_or I 8 i n3 a t' i' k' with ⟨rfl, rfl, rfl, -⟩ | e
        · exact trivial
        · rw [e]; exact g1 t' i' k'
  · by_cases hq : i' = i ∧ k' = n3
    · obtain ⟨rfl, rfl⟩ := hq
      rw [th_u_tag (t' := 8) (by decide), th_u_tag (t' := 8) (by decide), th_u_eq, th_u_tag (t' := 9) (by decide), th_u_eq, th_u_eq]
      exact hv
    · have e : ∀ (J : th_I) (t : Nat) (v : Int32), th_u J t i n3 v t i' k' = J t i' k' := by
        intro J t v
        rcases th_u_or J t i n3 v t i' k' with ⟨-, q1, q2, -⟩ | e
        · exact absurd ⟨q1, q2⟩ hq
        · exact e
      rw [th_u_tag (t' := 8) (by decide), th_u_tag (t' := 8) (by decide), e, th_u_tag (t' := 9) (by decide), e, th_u_tag (t' := 9) (by decide), e, th_u_tag (t' := 10) (by decide), th_u_tag (t' := 10) (by decide)]
      exact g2 i' k'
def th_I0 : th_I := fun t i k => match t with
  | 0 => if k = 6 then 4 else if k = 7 then -1 else 0
  | 6 => if k = 0 then nI i else if k = 8 then 24 else 0
  | 16 => if k = 1 then -1 else 0
  | 20 => if k = 33 then 4 else 0
  | 35 => 24
  | 44 => -1
  | 53 => if k = 6 then -1 else 0
  | _ => 0
def th_Of (A J : th_I) : Prop := (∀ t i k, 20 ≤ t → J t i k = th_I0 t i k) ∧ (∀ i k, J 17 i k = A 17 i k)
theorem th_zn {v : Int32} (h : v.toInt = 1 ∨ v.toInt = 0) : narrow .boolean (.int v) = .int v := by
  rcases h with h | h
  · rw [show v = 1 from th_eqi (h.trans (by decide))]
    rfl
  · rw [show v = 0 from th_eqi (h.trans (by decide))]
    rfl
theorem th_c53 {x : Int32} {n : Nat} (e : x = th_I0 53 0 n) : (x.toInt = -1 ∧ n = 6) ∨ (x.toInt = 0 ∧ n ≠ 6) := by
  have e : x = if n = 6 then -1 else 0 := e
  by_cases h : n = 6
  · rw [if_pos h] at e
    subst e
    exact Or.inl ⟨by decide, h⟩
  · rw [if_neg h] at e
    subst e
    exact Or.inr ⟨by decide, h⟩
theorem th_oput {A I : th_I} {t i k : Nat} {v : Int32} (h : th_Of A I) (ht : t ≠ 17) (hv : th_I0 t i k = v) : th_Of A (th_u I t i k v) := by
  refine ⟨fun t' i' k' q => ?_, fun i' k' => ?_⟩
  · rcases th_u_or I t i k v t' i' k' with ⟨rfl, rfl, rfl, e⟩ | e
    · rw [e, hv]
    · rw [e]; exact h.1 t' i' k' q
  · rw [th_u_tag (by omega)]; exact h.2 i' k'
theorem th_rem5 {x : Int32} (h0 : 0 ≤ x.toInt) (h1 : x.toInt ≤ 20) : 0 ≤ (x - x / 5 * 5).toInt ∧ (x - x / 5 * 5).toInt ≤ 4 := by
  have key : ∀ n : Nat, n < 21 → 0 ≤ (Int32.ofInt (n : Int) - Int32.ofInt (n : Int) / 5 * 5).toInt ∧ (Int32.ofInt (n : Int) - Int32.ofInt (n : Int) / 5 * 5).toInt ≤ 4 := by decide +kernel
  have hx : x = Int32.ofInt x.toInt := (Int32.ofInt_toInt x).symm
  obtain ⟨n, hn⟩ : ∃ n : Nat, x.toInt = (n : Int) := ⟨x.toInt.toNat, by omega⟩
  rw [hn] at hx
  rw [hx]
  exact key n (by omega)
theorem th_f1 : ∀ n : Nat, n < 21 → (n ≤ 4 ∧ (th_s91.2.2.2.getD n 0).toInt = 4) ∨ (5 ≤ n ∧ n ≤ 10 ∧ (th_s91.2.2.2.getD n 0).toInt = 3) ∨ (11 ≤ n ∧ n ≤ 13 ∧ (th_s91.2.2.2.getD n 0).toInt = 5) ∨ ((n = 14 ∨ n = 16) ∧ (th_s91.2.2.2.getD n 0).toInt = 25) ∨ ((n = 15 ∨ (17 ≤ n ∧ n ≤ 19)) ∧ (th_s91.2.2.2.getD n 0).toInt = 4) ∨ (n = 20 ∧ (th_s91.2.2.2.getD n 0).toInt = 0) := by decide +kernel
theorem th_f2 : ∀ n : Nat, n < 21 → ((n = 2 ∨ n = 7 ∨ n = 12) ∧ (th_s92.2.2.2.getD n 0).toInt = 4) ∨ (n = 8 ∧ (th_s92.2.2.2.getD n 0).toInt = 3) ∨ (n = 17 ∧ (th_s92.2.2.2.getD n 0).toInt = 25) ∨ (¬ (n = 2 ∨ n = 7 ∨ n = 12 ∨ n = 8 ∨ n = 17) ∧ (th_s92.2.2.2.getD n 0).toInt = 0) := by decide +kernel
theorem th_val_of {o a b : Int} {n1 n2 : Nat} {y1 y2 : Int32} (h1 : n1 < 21) (h2 : n2 < 21) (m1 : (n1 : Int) = o) (e1 : y1 = th_s91.2.2.2.getD n1 0) (m2 : (n2 : Int) = o) (e2 : y2 = th_s92.2.2.2.getD n2 0) (p1 : 0 < y1.toInt → 0 ≤ a ∧ a < y1.toInt) (p2 : 0 < y2.toInt → 0 ≤ b ∧ b < y2.toInt) : th_valid o a b := by
  have f1 := th_f1 n1 h1
  have f2 := th_f2 n2 h2
  rw [← e1] at f1
  rw [← e2] at f2
  unfold th_valid
  refine ⟨?_, ?_, ?_, ?_, ?_, ?_, ?_, ?_⟩ <;> omega
theorem th_val_a {o a b : Int} {n1 : Nat} {y1 : Int32} (h1 : n1 < 21) (m1 : (n1 : Int) = o) (e1 : y1 = th_s91.2.2.2.getD n1 0) (h : th_valid o a b) : 0 < y1.toInt → 0 ≤ a ∧ a < y1.toInt := by
  have f1 := th_f1 n1 h1
  rw [← e1] at f1
  unfold th_valid at h
  omega
theorem th_val_b {o a b : Int} {n1 : Nat} {y1 : Int32} (h1 : n1 < 21) (m1 : (n1 : Int) = o) (e1 : y1 = th_s92.2.2.2.getD n1 0) (h : th_valid o a b) : 0 < y1.toInt → 0 ≤ b ∧ b < y1.toInt := by
  have f1 := th_f2 n1 h1
  rw [← e1] at f1
  unfold th_valid at h
  omega
theorem th_nI5 : ∀ i : Nat, i < 5 → (nI i).toInt = (i : Int) := by decide +kernel
theorem hth_I0 : th_Inv 0 4 th_I0 th_I0 := by
  have h0 : (0 : Int32).toInt = 0 := by decide
  refine ⟨fun t i k => ?_, fun i k => ?_, by omega, fun _ _ _ _ => rfl⟩
  · unfold th_ok
    split
    · split
      · exact ⟨by show 0 ≤ (0 : Int32).toInt; omega, by show (0 : Int32).toInt ≤ 0; omega⟩
      · exact Or.inl (show (4 : Int32).toInt = 4 by decide)
      · show -1 ≤ (-1 : Int32).toInt ∧ (-1 : Int32).toInt ≤ 4
        decide
      · trivial
    · split
      · show (nI i).toInt = (i : Int) ∨ 5 ≤ i
        by_cases h : i < 5
        · exact Or.inl (th_nI5 i h)
        · exact Or.inr (by omega)
      · exact ⟨by show 0 ≤ (0 : Int32).toInt; omega, by show (0 : Int32).toInt ≤ 24; omega⟩
      · show 0 ≤ (24 : Int32).toInt ∧ (24 : Int32).toInt ≤ 24
        decide
      · exact ⟨by show 0 ≤ (0 : Int32).toInt; omega, by show (0 : Int32).toInt ≤ 2; omega⟩
      · exact ⟨by show 0 ≤ (0 : Int32).toInt; omega, by show (0 : Int32).toInt ≤ 2; omega⟩
      · exact ⟨by show 0 ≤ (0 : Int32).toInt; omega, by show (0 : Int32).toInt ≤ 4; omega⟩
      · exact ⟨by show 0 ≤ (0 : Int32).toInt; omega, by show (0 : Int32).toInt ≤ 3; omega⟩
      · trivial
    · split
      · exact ⟨by show 0 ≤ (0 : Int32).toInt; omega, by show (0 : Int32).toInt ≤ 24; omega⟩
      · trivial
    · split
      · have := th_lp_le i
        exact ⟨by show 0 ≤ (0 : Int32).toInt; omega, by show (0 : Int32).toInt ≤ (th_lp i : Int); omega⟩
      · trivial
    · exact ⟨by show 0 ≤ (0 : Int32).toInt; omega, by show (0 : Int32).toInt ≤ 3; omega⟩
    · split
      · exact ⟨by show 0 ≤ (0 : Int32).toInt; omega, by show (0 : Int32).toInt ≤ 5; omega⟩
      · trivial
    · exact ⟨by show 0 ≤ (0 : Int32).toInt; omega, by show (0 : Int32).toInt ≤ 4; omega⟩
    · trivial
  · show th_valid (0 : Int32).toInt (0 : Int32).toInt (0 : Int32).toInt
    unfold th_valid
    omega
theorem th_ok_sl {K sl sl' v : Int} {t i k : Nat} (h : th_ok K sl t i k v) (q : ¬ (t = 0 ∧ k = 6)) : th_ok K sl' t i k v := by
  unfold th_ok at h ⊢
  split at h <;> first | exact h | (split at h <;> first | exact h | (exact absurd ⟨rfl, rfl⟩ q))
theorem th_slice {K sl : Int} {Z I : th_I} {n : Int32} (hI : th_Inv K sl Z I) (h : 1 ≤ n.toInt ∧ n.toInt ≤ 20) : th_Inv K n.toInt Z (th_u I 0 0 6 n) := by
  obtain ⟨h1, h2, h3, h4⟩ := hI
  refine ⟨fun t' i' k' => ?_, fun i' k' => ?_, ⟨h.1, h.2, h3.2.2.1, h3.2.2.2⟩, fun t' i' k' q => by rw [th_u_tag (by omega)]; exact h4 t' i' k' q⟩
  · by_cases q : t' = 0 ∧ k' = 6
    · obtain ⟨rfl, rfl⟩ := q
      by_cases q2 : i' = 0
      · subst q2
        rw [th_u_eq]
        exact Or.inl rfl
      · exact Or.inr (by omega)
    · rcases th_u_or I 0 0 6 n t' i' k' with ⟨rfl, rfl, rfl, e⟩ | e
      · exact absurd ⟨rfl, rfl⟩ q
      · rw [e]
        exact th_ok_sl (h1 t' i' k') q
  · rw [th_u_tag (by omega), th_u_tag (by omega), th_u_tag (by omega)]
    exact h2 i' k'

theorem tb {w : Cond} (n : Nat) (h : lw_tbl[n]? = some w) (g : goodWord w = true) : w ∈ th_B := List.mem_filter.mpr ⟨List.mem_of_getElem? h, g⟩
theorem tn {w : Cond} (n : Nat) (h : lw_tbl[n]? = some w) (g : th_nk w = true) : w ∈ th_NB := List.mem_filter.mpr ⟨List.mem_of_getElem? h, g⟩

