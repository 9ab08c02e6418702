def ro_ps (K sl : Int) (Z I : th_I) (mn : Nat) (k : Int) (J : th_I) : Prop :=
  (∀ t i q, ro_ok K sl t i q (J t i q).toInt) ∧ (∀ t i q, t < 20 → J t i q = Z t i q) ∧ (∀ t q, ro_tag t = false → 20 ≤ t → t ≠ 46 → t ≠ 47 → J t 0 q = I t 0 q) ∧
  (J 47 0 mn).toInt = (I 47 0 mn).toInt - 1 ∧ (∀ q, q ≠ mn → J 47 0 q = I 47 0 q) ∧ (∀ q : Nat, (q : Int) < k → J 46 0 (5 * mn + q) = I 46 0 (5 * mn + q + 1)) ∧ (∀ q : Nat, q < 5 * mn ∨ 5 * (mn : Int) + k ≤ (q : Int) → J 46 0 q = I 46 0 q)
theorem ro_ps_eq {K sl k k' : Int} {Z I J : th_I} {mn : Nat} (h : ro_ps K sl Z I mn k J) (e : k' = k) : ro_ps K sl Z I mn k' J := by
  rw [e]
  exact h
theorem ro_ps0 {K sl : Int} {Z I A : th_I} {mn : Nat} {x : Int32} (hA : th_OI K sl Z A) (hf : ∀ t q, ro_tag t = false → 20 ≤ t → A t 0 q = I t 0 q) (hx : x.toInt = (I 47 0 mn).toInt - 1) (hr : 0 ≤ x.toInt ∧ x.toInt ≤ 5) : ro_ps K sl Z I mn 0 (th_u A 47 0 mn x) := by
  refine ⟨fun t' i' k' => ?_, fun t' i' k' q => by rw [th_u_tag (by omega)]; exact hA.2.2.2.1 t' i' k' q, fun t q h1 h2 _ h4 => by rw [th_u_tag h4]; exact hf t q h1 h2, by rw [th_u_eq]; exact hx, fun q hq => by rw [th_u_slot hq]; exact hf 47 q rfl (by decide), fun q hq => absurd hq (by omega), fun q _ => by rw [th_u_tag (by decide)]; exact hf 46 q rfl (by decide)⟩
  rcases th_u_or A 47 0 mn x t' i' k' with ⟨rfl, rfl, rfl, e⟩ | e
  · rw [e]; exact hr
  · rw [e]; exact hA.1 t' i' k'
theorem ro_ps1 {K sl k : Int} {Z I J : th_I} {mn a b : Nat} {v : Int32} (h : ro_ps K sl Z I mn k J) (hk : 0 ≤ k) (ha : (a : Int) = 5 * (mn : Int) + k) (hb : (b : Int) = 5 * (mn : Int) + k + 1) (hv : v = J 46 0 b) : ro_ps K sl Z I mn (k + 1) (th_u J 46 0 a v) := by
  obtain ⟨g1, g2, g3, g4, g5, g6, g7⟩ := h
  refine ⟨fun t' i' k' => ?_, fun t' i' k' q => by rw [th_u_tag (by omega)]; exact g2 t' i' k' q, fun t q h1 h2 h3 h4 => by rw [th_u_tag h3]; exact g3 t q h1 h2 h3 h4, by rw [th_u_tag (by decide)]; exact g4, fun q hq => by rw [th_u_tag (by decide)]; exact g5 q hq, fun q hq => ?_, fun q hq => by rw [th_u_slot (by omega)]; exact g7 q (by omega)⟩
  · rcases th_u_or J 46 0 a v t' i' k' with ⟨rfl, rfl, rfl, e⟩ | e
    · rw [e, hv]; exact g1 46 0 b
    · rw [e]; exact g1 t' i' k'
  · by_cases c : (q : Int) < k
    · rw [th_u_slot (by omega)]
      exact g6 q c
    · have e1 : a = 5 * mn + q := by omega
      have e2 : b = 5 * mn + q + 1 := by omega
      subst e1 e2
      rw [th_u_eq, hv]
      exact g7 (5 * mn + q + 1) (by omega)
theorem ro_psput {K sl k : Int} {Z I J : th_I} {mn t i q : Nat} {v : Int32} (h : ro_ps K sl Z I mn k J) (ht : ro_tag t = true) (hv : ro_ok K sl t i q v.toInt) : ro_ps K sl Z I mn k (th_u J t i q v) := by
  obtain ⟨g1, g2, g3, g4, g5, g6, g7⟩ := h
  have ht20 : 20 ≤ t := by
    unfold ro_tag at ht
    simp only [Bool.and_eq_true, Nat.ble_eq] at ht
    exact ht.1
  refine ⟨fun t' i' k' => ?_, fun t' i' k' q => by rw [th_u_tag (by omega)]; exact g2 t' i' k' q, fun t' q h1 h2 h3 h4 => by rw [th_u_tag (ro_tag_ne ht h1)]; exact g3 t' q h1 h2 h3 h4, by rw [th_u_tag (ro_tag_ne ht rfl)]; exact g4, fun q hq => by rw [th_u_tag (ro_tag_ne ht rfl)]; exact g5 q hq, fun q hq => by rw [th_u_tag (ro_tag_ne ht rfl)]; exact g6 q hq, fun q hq => by rw [th_u_tag (ro_tag_ne ht rfl)]; exact g7 q hq⟩
  rcases th_u_or J t i q v t' i' k' with ⟨rfl, rfl, rfl, e⟩ | e
  · rw [e]; exact hv
  · rw [e]; exact g1 t' i' k'
theorem ro_psend {K sl k : Int} {Z I J : th_I} {mn tn : Nat} {s : Int32} (h : ro_ps K sl Z I mn k J) (hI : th_OI K sl Z I) (hm : mn < 3) (h0 : 0 < (I 47 0 mn).toInt) (hk : (I 47 0 mn).toInt - 1 ≤ k) (hk5 : k ≤ 5) (ht : (I 46 0 (5 * mn)).toInt = (tn : Int)) (hs : s.toInt = 1) : th_OI K sl Z (th_u J 32 0 tn s) := by
  obtain ⟨a1, a2, a3, a4, a5, a6, a7⟩ := h
  obtain ⟨g1, g2, g3, g4, g5, g6, g7, g8⟩ := hI
  have b5 : (I 47 0 mn).toInt ≤ 5 := (g1 47 0 mn).2
  obtain ⟨n, hn⟩ := th_nat (a := (I 47 0 mn).toInt - 1) (by omega)
  have f : ∀ t q, ro_tag t = false → 20 ≤ t → t ≠ 46 → t ≠ 47 → t ≠ 32 → th_u J 32 0 tn s t 0 q = I t 0 q := fun t q b c d e g => by rw [th_u_tag g]; exact a3 t q b c d e
  have f32 : ∀ e, e ≠ tn → th_u J 32 0 tn s 32 0 e = I 32 0 e := fun e he => by rw [th_u_slot he]; exact a3 32 e rfl (by decide) (by decide) (by decide)
  have key := g5.1 mn hm 0 (by omega) (by omega) tn (by rw [Nat.add_zero]; exact ht)
  refine ⟨fun t' i' k' => ?_, fun k' => by rw [f _ _ rfl (by decide) (by decide) (by decide) (by decide), f _ _ rfl (by decide) (by decide) (by decide) (by decide), f _ _ rfl (by decide) (by decide) (by decide) (by decide)]; exact g2 k', g3, fun t' i' k' q => by rw [th_u_tag (by omega)]; exact a2 t' i' k' q, ?_, ?_, ?_, fun m hm hs2 => ?_⟩
  · rcases th_u_or J 32 0 tn s t' i' k' with ⟨rfl, rfl, rfl, -⟩ | e
    · exact trivial
    · rw [e]; exact a1 t' i' k'
  · exact (ro_R_pop (n := n) g5 hm (by omega) (by omega) ht (fun q hq => by rw [th_u_tag (by decide)]; exact a6 q (by omega)) (fun r q hr hq => by rw [th_u_tag (by decide)]; exact a7 (5 * r + q) (by omega)) (by rw [th_u_tag (by decide)]; omega) (fun q hq => by rw [th_u_tag (by decide)]; exact a5 q hq) f32 (fun e _ => f _ _ rfl (by decide) (by decide) (by decide) (by decide))).1
  · exact ro_R_upd g6 (ro_no_of g6 (by rw [key.1]; decide)) (fun q => f _ _ rfl (by decide) (by decide) (by decide) (by decide)) (fun q => f _ _ rfl (by decide) (by decide) (by decide) (by decide)) f32 (fun e _ => f _ _ rfl (by decide) (by decide) (by decide) (by decide))
  · exact ro_R_upd g7 (ro_no_of g7 (by rw [key.1]; decide)) (fun q => f _ _ rfl (by decide) (by decide) (by decide) (by decide)) (fun q => f _ _ rfl (by decide) (by decide) (by decide) (by decide)) f32 (fun e _ => f _ _ rfl (by decide) (by decide) (by decide) (by decide))
  · rw [f _ _ rfl (by decide) (by decide) (by decide) (by decide)]
    by_cases e : m = tn
    · subst e
      rw [th_u_eq] at hs2
      omega
    · rw [f32 m e] at hs2
      exact g8 m hm hs2
theorem ro_pspost {K sl k : Int} {Z I J : th_I} {mn tn : Nat} {s : Int32} (h : ro_ps K sl Z I mn k J) (hs : s.toInt = 1) : ∀ e, th_u J 32 0 tn s 32 0 e = I 32 0 e ∨ (th_u J 32 0 tn s 32 0 e).toInt = 1 := by
  intro e
  by_cases c : e = tn
  · subst c
    rw [th_u_eq]
    exact Or.inr hs
  · rw [th_u_slot c]
    exact Or.inl (h.2.2.1 32 e rfl (by decide) (by decide) (by decide))

