def ro_no (I : th_I) (rt mt w t : Nat) : Prop := ∀ r : Nat, r < w → ∀ k : Nat, k < 5 → (k : Int) < (I mt 0 r).toInt → (I rt 0 (5 * r + k)).toInt ≠ (t : Int)
theorem ro_no_of {I : th_I} {rt mt kt w t : Nat} {S : Int} (h : ro_R I rt mt kt S w) (hs : (I 32 0 t).toInt ≠ S) : ro_no I rt mt w t := by
  intro r hr k hk hm e
  exact hs (h.1 r hr k hk hm t e).1
theorem ro_no_key {I : th_I} {rt mt kt w t : Nat} {S : Int} (h : ro_R I rt mt kt S w) {r : Nat} (hr : r < w) (hs : (I kt 0 t).toInt ≠ (r : Int)) : ∀ k : Nat, k < 5 → (k : Int) < (I mt 0 r).toInt → (I rt 0 (5 * r + k)).toInt ≠ (t : Int) := by
  intro k hk hm e
  exact hs (h.1 r hr k hk hm t e).2
theorem ro_R_upd {I J : th_I} {rt mt kt w t : Nat} {S : Int} (h : ro_R I rt mt kt S w) (hn : ro_no I rt mt w t) (h1 : ∀ k, J rt 0 k = I rt 0 k) (h2 : ∀ k, J mt 0 k = I mt 0 k) (h3 : ∀ e, e ≠ t → J 32 0 e = I 32 0 e) (h4 : ∀ e, e ≠ t → J kt 0 e = I kt 0 e) : ro_R J rt mt kt S w := by
  refine ⟨fun r hr k hk hm e he => ?_, fun r hr k1 k2 q1 q2 hm => ?_⟩
  · rw [h2] at hm
    rw [h1] at he
    have hne : e ≠ t := by
      rintro rfl
      exact hn r hr k hk hm he
    rw [h3 e hne, h4 e hne]
    exact h.1 r hr k hk hm e he
  · rw [h2] at hm
    rw [h1, h1]
    exact h.2 r hr k1 k2 q1 q2 hm
theorem ro_no_upd {I J : th_I} {rt mt w t : Nat} (h : ro_no I rt mt w t) (h1 : ∀ k, J rt 0 k = I rt 0 k) (h2 : ∀ k, J mt 0 k = I mt 0 k) : ro_no J rt mt w t := by
  intro r hr k hk hm
  rw [h2] at hm
  rw [h1]
  exact h r hr k hk hm
theorem ro_fiveB : ∀ a b c d e t : Fin 5, (!(a == b) && !(a == c) && !(a == d) && !(a == e) && !(b == c) && !(b == d) && !(b == e) && !(c == d) && !(c == e) && !(d == e) && !(a == t) && !(b == t) && !(c == t) && !(d == t) && !(e == t)) = false := by decide +kernel
theorem ro_five (a b c d e t : Fin 5) (hab : a ≠ b) (hac : a ≠ c) (had : a ≠ d) (hae : a ≠ e) (hbc : b ≠ c) (hbd : b ≠ d) (hbe : b ≠ e) (hcd : c ≠ d) (hce : c ≠ e) (hde : d ≠ e) (hat : a ≠ t) (hbt : b ≠ t) (hct : c ≠ t) (hdt : d ≠ t) (het : e ≠ t) : False := by
  have h := ro_fiveB a b c d e t
  simp_all
theorem ro_full {I : th_I} {rt mt kt w t r : Nat} {S : Int} (h : ro_R I rt mt kt S w) (hn : ro_no I rt mt w t) (ht : t < 5) (hr : r < w) (hv : ∀ k, 0 ≤ (I rt 0 k).toInt ∧ (I rt 0 k).toInt ≤ 4) (hm : (I mt 0 r).toInt ≤ 5) : (I mt 0 r).toInt ≤ 4 := by
  by_cases q : (I mt 0 r).toInt ≤ 4
  · exact q
  · exfalso
    have h5 : (I mt 0 r).toInt = 5 := by omega
    have g : ∀ k : Nat, k < 5 → ∃ e : Fin 5, (I rt 0 (5 * r + k)).toInt = ((e : Nat) : Int) := by
      intro k hk
      have := hv (5 * r + k)
      exact ⟨⟨(I rt 0 (5 * r + k)).toInt.toNat, by omega⟩, by show _ = (((I rt 0 (5 * r + k)).toInt.toNat : Nat) : Int); omega⟩
    obtain ⟨e0, f0⟩ := g 0 (by omega)
    obtain ⟨e1, f1⟩ := g 1 (by omega)
    obtain ⟨e2, f2⟩ := g 2 (by omega)
    obtain ⟨e3, f3⟩ := g 3 (by omega)
    obtain ⟨e4, f4⟩ := g 4 (by omega)
    have dd : ∀ (k1 k2 : Nat) (a b : Fin 5), k1 < k2 → k2 < 5 → (I rt 0 (5 * r + k1)).toInt = ((a : Nat) : Int) → (I rt 0 (5 * r + k2)).toInt = ((b : Nat) : Int) → a ≠ b := by
      intro k1 k2 a b q1 q2 fa fb e
      subst e
      exact h.2 r hr k1 k2 q1 q2 (by rw [h5]; omega) (fa.trans fb.symm)
    have nn : ∀ (k : Nat) (a : Fin 5), k < 5 → (I rt 0 (5 * r + k)).toInt = ((a : Nat) : Int) → a ≠ (⟨t, ht⟩ : Fin 5) := by
      intro k a hk fa e
      subst e
      exact hn r hr k hk (by rw [h5]; omega) fa
    exact ro_five e0 e1 e2 e3 e4 ⟨t, ht⟩ (dd 0 1 _ _ (by omega) (by omega) f0 f1) (dd 0 2 _ _ (by omega) (by omega) f0 f2) (dd 0 3 _ _ (by omega) (by omega) f0 f3) (dd 0 4 _ _ (by omega) (by omega) f0 f4) (dd 1 2 _ _ (by omega) (by omega) f1 f2) (dd 1 3 _ _ (by omega) (by omega) f1 f3) (dd 1 4 _ _ (by omega) (by omega) f1 f4) (dd 2 3 _ _ (by omega) (by omega) f2 f3) (dd 2 4 _ _ (by omega) (by omega) f2 f4) (dd 3 4 _ _ (by omega) (by omega) f3 f4) (nn 0 _ (by omega) f0) (nn 1 _ (by omega) f1) (nn 2 _ (by omega) f2) (nn 3 _ (by omega) f3) (nn 4 _ (by omega) f4)
theorem ro_R_app {I J : th_I} {rt mt kt w t r n : Nat} {S : Int} (h : ro_R I rt mt kt S w) (hn : ro_no I rt mt w t) (hr : r < w) (hm : (I mt 0 r).toInt = (n : Int)) (h1 : (J rt 0 (5 * r + n)).toInt = (t : Int)) (h2 : ∀ k, k ≠ 5 * r + n → J rt 0 k = I rt 0 k) (h3 : (J mt 0 r).toInt = (n : Int) + 1) (h4 : ∀ q, q ≠ r → J mt 0 q = I mt 0 q) (hn5 : n < 5)
    (h5 : (J 32 0 t).toInt = S) (h6 : (J kt 0 t).toInt = (r : Int)) (h7 : ∀ e, e ≠ t → J 32 0 e = I 32 0 e) (h8 : ∀ e, e ≠ t → J kt 0 e = I kt 0 e) : ro_R J rt mt kt S w := by
  have old : ∀ r' k : Nat, r' < w → k < 5 → (k : Int) < (J mt 0 r').toInt → ¬ (r' = r ∧ k = n) → (k : Int) < (I mt 0 r').toInt ∧ J rt 0 (5 * r' + k) = I rt 0 (5 * r' + k) := by
    intro r' k _ hk hq hne
    by_cases e : r' = r
    · subst e
      have hkn : k ≠ n := fun q => hne ⟨rfl, q⟩
      rw [h3] at hq
      exact ⟨by rw [hm]; omega, h2 _ (by omega)⟩
    · rw [h4 r' e] at hq
      exact ⟨hq, h2 _ (by omega)⟩
  refine ⟨fun r' hr' k hk hq e he => ?_, fun r' hr' k1 k2 q1 q2 hq => ?_⟩
  · by_cases c : r' = r ∧ k = n
    · obtain ⟨rfl, rfl⟩ := c
      have : e = t := by omega
      subst this
      exact ⟨h5, h6⟩
    · obtain ⟨a1, a2⟩ := old r' k hr' hk hq c
      rw [a2] at he
      have hne : e ≠ t := by
        rintro rfl
        exact hn r' hr' k hk a1 he
      rw [h7 e hne, h8 e hne]
      exact h.1 r' hr' k hk a1 e he
  · have c1 : ¬ (r' = r ∧ k1 = n) := by
      rintro ⟨rfl, rfl⟩
      rw [h3] at hq
      omega
    obtain ⟨b1, b2⟩ := old r' k1 hr' (by omega) (by omega) c1
    by_cases c : r' = r ∧ k2 = n
    · obtain ⟨rfl, rfl⟩ := c
      rw [b2, h1]
      exact hn r' hr' k1 (by omega) b1
    · obtain ⟨a1, a2⟩ := old r' k2 hr' q2 hq c
      rw [a2, b2]
      exact h.2 r' hr' k1 k2 q1 q2 a1
theorem ro_R_pop {I J : th_I} {rt mt kt w t r n : Nat} {S : Int} (h : ro_R I rt mt kt S w) (hr : r < w) (hm : (I mt 0 r).toInt = (n : Int) + 1) (hn5 : n < 5) (ht : (I rt 0 (5 * r)).toInt = (t : Int)) (h1 : ∀ k, k < n → J rt 0 (5 * r + k) = I rt 0 (5 * r + k + 1)) (h2 : ∀ q k, q ≠ r → k < 5 → J rt 0 (5 * q + k) = I rt 0 (5 * q + k)) (h3 : (J mt 0 r).toInt = (n : Int)) (h4 : ∀ q, q ≠ r → J mt 0 q = I mt 0 q)
    (h7 : ∀ e, e ≠ t → J 32 0 e = I 32 0 e) (h8 : ∀ e, e ≠ t → J kt 0 e = I kt 0 e) : ro_R J rt mt kt S w ∧ ro_no J rt mt w t := by
  have key := h.1 r hr 0 (by omega) (by rw [hm]; omega) t (by rw [Nat.add_zero]; exact ht)
  have hno : ro_no J rt mt w t := by
    intro r' hr' k hk hq e
    by_cases c : r' = r
    · subst c
      rw [h3] at hq
      rw [h1 k (by omega)] at e
      exact h.2 r' hr' 0 (k + 1) (by omega) (by omega) (by rw [hm]; omega) (by rw [Nat.add_zero, ht]; exact e.symm)
    · rw [h4 r' c] at hq
      rw [h2 r' k c hk] at e
      have := (h.1 r' hr' k hk hq t e).2
      rw [key.2] at this
      omega
  refine ⟨⟨fun r' hr' k hk hq e he => ?_, fun r' hr' k1 k2 q1 q2 hq => ?_⟩, hno⟩
  · have hne : e ≠ t := by
      rintro rfl
      exact hno r' hr' k hk hq he
    rw [h7 e hne, h8 e hne]
    by_cases c : r' = r
    · subst c
      rw [h3] at hq
      rw [h1 k (by omega)] at he
      exact h.1 r' hr' (k + 1) (by omega) (by rw [hm]; omega) e he
    · rw [h4 r' c] at hq
      rw [h2 r' k c hk] at he
      exact h.1 r' hr' k hk hq e he
  · by_cases c : r' = r
    · subst c
      rw [h3] at hq
      rw [h1 k1 (by omega), h1 k2 (by omega)]
      exact h.2 r' hr' (k1 + 1) (k2 + 1) (by omega) (by omega) (by rw [hm]; omega)
    · rw [h4 r' c] at hq
      rw [h2 r' k1 c (by omega), h2 r' k2 c q2]
      exact h.2 r' hr' k1 k2 q1 q2 hq
theorem ro_R_cut {I J : th_I} {rt mt kt w t r n : Nat} {S : Int} (h : ro_R I rt mt kt S w) (hr : r < w) (htr : (I kt 0 t).toInt = (r : Int)) (hn5 : n ≤ 5) (h0 : ∀ k, k < n → ∃ k' : Nat, k' < 5 ∧ (k' : Int) < (I mt 0 r).toInt ∧ J rt 0 (5 * r + k) = I rt 0 (5 * r + k')) (hd : ∀ k1 k2, k1 < k2 → k2 < n → (J rt 0 (5 * r + k1)).toInt ≠ (J rt 0 (5 * r + k2)).toInt) (hne : ∀ k, k < n → (J rt 0 (5 * r + k)).toInt ≠ (t : Int))
    (h2 : ∀ q k, q ≠ r → k < 5 → J rt 0 (5 * q + k) = I rt 0 (5 * q + k)) (h3 : (J mt 0 r).toInt = (n : Int)) (h4 : ∀ q, q ≠ r → J mt 0 q = I mt 0 q) (h7 : ∀ e, e ≠ t → J 32 0 e = I 32 0 e) (h8 : ∀ e, e ≠ t → J kt 0 e = I kt 0 e) : ro_R J rt mt kt S w ∧ ro_no J rt mt w t := by
  have hno : ro_no J rt mt w t := by
    intro r' hr' k hk hq e
    by_cases c : r' = r
    · subst c
      rw [h3] at hq
      exact hne k (by omega) e
    · rw [h4 r' c] at hq
      rw [h2 r' k c hk] at e
      have := (h.1 r' hr' k hk hq t e).2
      rw [htr] at this
      omega
  refine ⟨⟨fun r' hr' k hk hq e he => ?_, fun r' hr' k1 k2 q1 q2 hq => ?_⟩, hno⟩
  · have hnt : e ≠ t := by
      rintro rfl
      exact hno r' hr' k hk hq he
    rw [h7 e hnt, h8 e hnt]
    by_cases c : r' = r
    · subst c
      rw [h3] at hq
      obtain ⟨k', g1, g2, g3⟩ := h0 k (by omega)
      rw [g3] at he
      exact h.1 r' hr' k' g1 g2 e he
    · rw [h4 r' c] at hq
      rw [h2 r' k c hk] at he
      exact h.1 r' hr' k hk hq e he
  · by_cases c : r' = r
    · subst c
      rw [h3] at hq
      exact hd k1 k2 q1 (by omega)
    · rw [h4 r' c] at hq
      rw [h2 r' k1 c (by omega), h2 r' k2 c q2]
      exact h.2 r' hr' k1 k2 q1 q2 hq

