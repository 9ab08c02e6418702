def ro_ct (K sl : Int) (I : th_I) (rt r : Nat) (t n k : Int) (J : th_I) : Prop :=
  (∀ t' i q, ro_ok K sl t' i q (J t' i q).toInt) ∧ (∀ t' i q, t' ≠ rt → J t' i q = I t' i q) ∧ (∀ q : Nat, q < 5 * r ∨ 5 * (r : Int) + k ≤ (q : Int) → J rt 0 q = I rt 0 q) ∧
  (∀ a : Nat, (a : Int) < n → ∃ b : Nat, (b : Int) < k ∧ J rt 0 (5 * r + a) = I rt 0 (5 * r + b) ∧ (I rt 0 (5 * r + b)).toInt ≠ t) ∧
  (∀ a b : Nat, a < b → (b : Int) < n → (J rt 0 (5 * r + a)).toInt ≠ (J rt 0 (5 * r + b)).toInt) ∧
  (∀ q : Nat, (q : Int) < k → (I rt 0 (5 * r + q)).toInt = t → n = k - 1) ∧ ((∀ q : Nat, (q : Int) < k → (I rt 0 (5 * r + q)).toInt ≠ t) → n = k)
theorem ro_ct_eq {K sl t n k n' k' : Int} {I J : th_I} {rt r : Nat} (h : ro_ct K sl I rt r t n k J) (e : n' = n) (e2 : k' = k) : ro_ct K sl I rt r t n' k' J := by
  rw [e, e2]
  exact h
theorem ro_ct0 {K sl t : Int} {Z I : th_I} {rt r : Nat} (hI : th_OI K sl Z I) : ro_ct K sl I rt r t 0 0 I :=
  ⟨hI.1, fun _ _ _ _ => rfl, fun _ _ => rfl, fun _ h => absurd h (by omega), fun _ _ _ h => absurd h (by omega), fun _ h => absurd h (by omega), fun _ => rfl⟩
theorem ro_ct1 {K sl t n k : Int} {I J : th_I} {rt mt kt w r b : Nat} {S : Int} (h : ro_ct K sl I rt r t n k J) (hR : ro_R I rt mt kt S w) (hr : r < w) (hk : 0 ≤ k ∧ k < 5 ∧ k < (I mt 0 r).toInt) (hb : (b : Int) = 5 * (r : Int) + k) (hv : (J rt 0 b).toInt = t) : ro_ct K sl I rt r t n (k + 1) J := by
  obtain ⟨g1, g2, g3, g4, g5, g6, g7⟩ := h
  obtain ⟨kn, hkn⟩ := th_nat hk.1
  have hb2 : b = 5 * r + kn := by omega
  subst hb2
  rw [g3 _ (by omega)] at hv
  have hn : n = k := g7 (fun q hq e => hR.2 r hr q kn (by omega) (by omega) (by omega) (by rw [e, hv]))
  refine ⟨g1, g2, fun q hq => g3 q (by omega), fun a ha => ?_, g5, fun q hq e => by omega, fun q => absurd hv (q kn (by omega))⟩
  obtain ⟨c, c1, c2⟩ := g4 a ha
  exact ⟨c, by omega, c2⟩
theorem ro_ct2 {K sl t n k : Int} {I J : th_I} {rt mt kt w r a b b' : Nat} {S : Int} {v : Int32} (hu : ∀ a b x, ro_ok K sl rt 0 a x → ro_ok K sl rt 0 b x) (h : ro_ct K sl I rt r t n k J) (hR : ro_R I rt mt kt S w) (hr : r < w) (hk : 0 ≤ n ∧ n ≤ k ∧ k < 5 ∧ k < (I mt 0 r).toInt) (ha : (a : Int) = 5 * (r : Int) + n) (hb : (b : Int) = 5 * (r : Int) + k) (hb' : (b' : Int) = 5 * (r : Int) + k) (hv : v = J rt 0 b) (hne : (J rt 0 b').toInt ≠ t) : ro_ct K sl I rt r t (n + 1) (k + 1) (th_u J rt 0 a v) := by
  obtain ⟨g1, g2, g3, g4, g5, g6, g7⟩ := h
  obtain ⟨kn, hkn⟩ := th_nat (a := k) (by omega)
  obtain ⟨nn, hnn⟩ := th_nat hk.1
  have e1 : b = 5 * r + kn := by omega
  have e2 : b' = 5 * r + kn := by omega
  have e3 : a = 5 * r + nn := by omega
  subst e1 e2 e3
  have hg : J rt 0 (5 * r + kn) = I rt 0 (5 * r + kn) := g3 _ (by omega)
  refine ⟨fun t' i' k' => ?_, fun t' i' q hq => by rw [th_u_tag hq]; exact g2 t' i' q hq, fun q hq => by rw [th_u_slot (by omega)]; exact g3 q (by omega), fun c hc => ?_, fun c d hcd hd => ?_, fun q hq e => ?_, fun q => ?_⟩
  · rcases th_u_or J rt 0 (5 * r + nn) v t' i' k' with ⟨rfl, rfl, rfl, e⟩ | e
    · rw [e, hv]
      exact hu _ _ _ (g1 t' 0 (5 * r + kn))
    · rw [e]; exact g1 t' i' k'
  · by_cases q : c = nn
    · subst q
      rw [th_u_eq, hv]
      exact ⟨kn, by omega, hg, by rw [← hg]; exact hne⟩
    · rw [th_u_slot (by omega)]
      obtain ⟨x, x1, x2⟩ := g4 c (by omega)
      exact ⟨x, by omega, x2⟩
  · have hc : c ≠ nn := by omega
    rw [th_u_slot (by omega)]
    by_cases q : d = nn
    · subst q
      rw [th_u_eq, hv, hg]
      obtain ⟨x, x1, x2, x3⟩ := g4 c (by omega)
      rw [x2]
      exact hR.2 r hr x kn (by omega) (by omega) (by omega)
    · rw [th_u_slot (by omega)]
      exact g5 c d hcd (by omega)
  · by_cases c : q = kn
    · subst c
      rw [← hg] at e
      exact absurd e hne
    · have := g6 q (by omega) e
      omega
  · have := g7 (fun x hx => q x (by omega))
    omega
theorem ro_ctR {K sl n k : Int} {I J : th_I} {rt mt kt w r t : Nat} {S : Int} {x : Int32} (h : ro_ct K sl I rt r (t : Int) n k J) (hR : ro_R I rt mt kt S w) (hr : r < w) (htr : (I kt 0 t).toInt = (r : Int)) (hk : 0 ≤ n ∧ n ≤ k ∧ k ≤ 5 ∧ k ≤ (I mt 0 r).toInt) (hx : x.toInt = n) (h1 : rt ≠ mt) (h2 : 32 ≠ mt) (h3 : kt ≠ mt) (h4 : 32 ≠ rt) (h5 : kt ≠ rt) : ro_R (th_u J mt 0 r x) rt mt kt S w ∧ ro_no (th_u J mt 0 r x) rt mt w t := by
  obtain ⟨g1, g2, g3, g4, g5, g6, g7⟩ := h
  obtain ⟨nn, hnn⟩ := th_nat hk.1
  refine ro_R_cut (n := nn) hR hr htr (by omega) (fun a ha => ?_) (fun a b hab hb => by rw [th_u_tag h1, th_u_tag h1]; exact g5 a b hab (by omega)) (fun a ha => ?_) (fun q a hq ha => by rw [th_u_tag h1]; exact g3 (5 * q + a) (by omega)) (by rw [th_u_eq]; omega) (fun q hq => by rw [th_u_slot hq]; exact g2 mt 0 q (Ne.symm h1)) (fun e _ => by rw [th_u_tag h2]; exact g2 32 0 e h4) (fun e _ => by rw [th_u_tag h3]; exact g2 kt 0 e h5)
  · obtain ⟨b, b1, b2, -⟩ := g4 a (by omega)
    exact ⟨b, by omega, by omega, by rw [th_u_tag h1]; exact b2⟩
  · obtain ⟨b, b1, b2, b3⟩ := g4 a (by omega)
    rw [th_u_tag h1, b2]
    exact b3
theorem ro_ctOI {K sl n k : Int} {Z I J : th_I} {rt mt r t : Nat} {x : Int32} (h : ro_ct K sl I rt r (t : Int) n k J) (hI : th_OI K sl Z I) (hq : (rt = 48 ∧ mt = 49) ∨ (rt = 50 ∧ mt = 51)) (hx : 0 ≤ x.toInt ∧ x.toInt ≤ 5) (hR : ro_RW (th_u J mt 0 r x)) : th_OI K sl Z (th_u J mt 0 r x) := by
  obtain ⟨a1, a2, -⟩ := h
  obtain ⟨g1, g2, g3, g4, -⟩ := hI
  have f : ∀ t' i q, t' ≠ rt → t' ≠ mt → th_u J mt 0 r x t' i q = I t' i q := fun t' i q b c => by rw [th_u_tag c]; exact a2 t' i q b
  refine ⟨fun t' i' k' => ?_, fun k' => by rw [f 21 _ _ (by omega) (by omega), f 22 _ _ (by omega) (by omega), f 23 _ _ (by omega) (by omega)]; exact g2 k', g3, fun t' i' k' q => by rw [f _ _ _ (by omega) (by omega)]; exact g4 t' i' k' q, hR⟩
  rcases th_u_or J mt 0 r x t' i' k' with ⟨rfl, rfl, rfl, e⟩ | e
  · rw [e]
    rcases hq with ⟨-, rfl⟩ | ⟨-, rfl⟩
    · exact hx
    · exact hx
  · rw [e]; exact a1 t' i' k'
theorem ro_ctW {K sl n k : Int} {Z I J : th_I} {r t : Nat} {x : Int32} (h : ro_ct K sl I 48 r (t : Int) n k J) (hI : th_OI K sl Z I) (hr : r < 3) (htr : (I 40 0 t).toInt = (r : Int)) (hk : 0 ≤ n ∧ n ≤ k ∧ k ≤ 5 ∧ k ≤ (I 49 0 r).toInt) (hx : x.toInt = n) : th_OI K sl Z (th_u J 49 0 r x) ∧ ro_no (th_u J 49 0 r x) 48 49 3 t := by
  have c := ro_ctR h hI.2.2.2.2.2.1 hr htr hk hx (by decide) (by decide) (by decide) (by decide) (by decide)
  have f : ∀ t' q, t' ≠ 48 → t' ≠ 49 → th_u J 49 0 r x t' 0 q = I t' 0 q := fun t' q b d => by rw [th_u_tag d]; exact h.2.1 t' 0 q b
  refine ⟨ro_ctOI h hI (Or.inl ⟨rfl, rfl⟩) (by omega) ⟨?_, c.1, ?_, fun m hm hs => ?_⟩, c.2⟩
  · exact ro_R_frame hI.2.2.2.2.1 (fun q => f _ q (by decide) (by decide)) (fun q => f _ q (by decide) (by decide)) (fun q => f _ q (by decide) (by decide)) (fun q => f _ q (by decide) (by decide))
  · exact ro_R_frame hI.2.2.2.2.2.2.1 (fun q => f _ q (by decide) (by decide)) (fun q => f _ q (by decide) (by decide)) (fun q => f _ q (by decide) (by decide)) (fun q => f _ q (by decide) (by decide))
  · rw [f _ _ (by decide) (by decide)] at hs ⊢
    exact hI.2.2.2.2.2.2.2 m hm hs
theorem ro_ctJ {K sl n k : Int} {Z I J : th_I} {r t : Nat} {x : Int32} (h : ro_ct K sl I 50 r (t : Int) n k J) (hI : th_OI K sl Z I) (hr : r < 5) (htr : (I 40 0 t).toInt = (r : Int)) (hk : 0 ≤ n ∧ n ≤ k ∧ k ≤ 5 ∧ k ≤ (I 51 0 r).toInt) (hx : x.toInt = n) : th_OI K sl Z (th_u J 51 0 r x) ∧ ro_no (th_u J 51 0 r x) 50 51 5 t := by
  have c := ro_ctR h hI.2.2.2.2.2.2.1 hr htr hk hx (by decide) (by decide) (by decide) (by decide) (by decide)
  have f : ∀ t' q, t' ≠ 50 → t' ≠ 51 → th_u J 51 0 r x t' 0 q = I t' 0 q := fun t' q b d => by rw [th_u_tag d]; exact h.2.1 t' 0 q b
  refine ⟨ro_ctOI h hI (Or.inr ⟨rfl, rfl⟩) (by omega) ⟨?_, ?_, c.1, fun m hm hs => ?_⟩, c.2⟩
  · exact ro_R_frame hI.2.2.2.2.1 (fun q => f _ q (by decide) (by decide)) (fun q => f _ q (by decide) (by decide)) (fun q => f _ q (by decide) (by decide)) (fun q => f _ q (by decide) (by decide))
  · exact ro_R_frame hI.2.2.2.2.2.1 (fun q => f _ q (by decide) (by decide)) (fun q => f _ q (by decide) (by decide)) (fun q => f _ q (by decide) (by decide)) (fun q => f _ q (by decide) (by decide))
  · rw [f _ _ (by decide) (by decide)] at hs ⊢
    exact hI.2.2.2.2.2.2.2 m hm hs

