def ro_ok (K sl : Int) (t i k : Nat) (v : Int) : Prop := match t with
  | 20 => (match k with
    | 33 => v = sl ∨ 0 < i
    | _ => True)
  | 24 => 0 ≤ v ∧ v ≤ 24
  | 28 => 0 ≤ v ∧ v ≤ 12
  | 29 => 0 ≤ v ∧ v ≤ 3
  | 31 => 0 ≤ v ∧ v ≤ 4
  | 33 => 0 ≤ v ∧ v ≤ 24
  | 35 => 0 ≤ v ∧ v ≤ 24
  | 38 => 0 ≤ v ∧ v ≤ 2
  | 40 => 0 ≤ v ∧ v ≤ 4
  | 41 => 0 ≤ v ∧ v ≤ 3
  | 46 => 0 ≤ v ∧ v ≤ 4
  | 47 => 0 ≤ v ∧ v ≤ 5
  | 48 => 0 ≤ v ∧ v ≤ 4
  | 49 => 0 ≤ v ∧ v ≤ 5
  | 50 => 0 ≤ v ∧ v ≤ 4
  | 51 => 0 ≤ v ∧ v ≤ 5
  | 53 => (match k with
    | 0 => 0 ≤ v ∧ v ≤ K
    | 6 => -1 ≤ v ∧ v ≤ 4
    | _ => True)
  | _ => True
def ro_in (I : th_I) (rt mt r : Nat) (t : Int) : Prop := ∃ k : Nat, k < 5 ∧ (k : Int) < (I mt 0 r).toInt ∧ (I rt 0 (5 * r + k)).toInt = t
def ro_R (I : th_I) (rt mt kt : Nat) (S : Int) (w : Nat) : Prop :=
  (∀ r : Nat, r < w → ∀ k : Nat, k < 5 → (k : Int) < (I mt 0 r).toInt → ∀ e : Nat, (I rt 0 (5 * r + k)).toInt = (e : Int) → (I 32 0 e).toInt = S ∧ (I kt 0 e).toInt = (r : Int)) ∧
  (∀ r : Nat, r < w → ∀ k1 k2 : Nat, k1 < k2 → k2 < 5 → (k2 : Int) < (I mt 0 r).toInt → (I rt 0 (5 * r + k1)).toInt ≠ (I rt 0 (5 * r + k2)).toInt)
def ro_RW (I : th_I) : Prop := ro_R I 46 47 38 2 3 ∧ ro_R I 48 49 40 3 3 ∧ ro_R I 50 51 40 4 5 ∧ ∀ n : Nat, n < 5 → (I 32 0 n).toInt = 3 → (I 40 0 n).toInt ≤ 2
def th_OI (K sl : Int) (Z I : th_I) : Prop := (∀ t i k, ro_ok K sl t i k (I t i k).toInt) ∧ (∀ k, th_valid (I 21 0 k).toInt (I 22 0 k).toInt (I 23 0 k).toInt) ∧ (1 ≤ sl ∧ sl ≤ 20 ∧ 0 ≤ K ∧ K ≤ 1000000) ∧ (∀ t i k, t < 20 → I t i k = Z t i k) ∧ ro_RW I
def ro_tag (t : Nat) : Bool := Nat.ble 20 t && !(t == 21 || t == 22 || t == 23 || t == 32 || t == 38 || t == 40 || t == 46 || t == 47 || t == 48 || t == 49 || t == 50 || t == 51)
theorem ro_tag_ne {t a : Nat} (h : ro_tag t = true) (ha : ro_tag a = false) : a ≠ t := by
  rintro rfl
  rw [h] at ha
  cases ha
theorem ro_R_frame {I J : th_I} {rt mt kt : Nat} {S : Int} {w : Nat} (h : ro_R I rt mt kt S w) (h1 : ∀ k, J rt 0 k = I rt 0 k) (h2 : ∀ k, J mt 0 k = I mt 0 k) (h3 : ∀ k, J kt 0 k = I kt 0 k) (h4 : ∀ k, J 32 0 k = I 32 0 k) : ro_R J rt mt kt S w := by
  unfold ro_R at h ⊢
  simp only [h1, h2, h3, h4]
  exact h
theorem ro_RW_frame {I J : th_I} (h : ro_RW I) (hj : ∀ t k, ro_tag t = false → 20 ≤ t → J t 0 k = I t 0 k) : ro_RW J := by
  obtain ⟨a, b, c, d⟩ := h
  refine ⟨ro_R_frame a (fun k => hj _ k rfl (by decide)) (fun k => hj _ k rfl (by decide)) (fun k => hj _ k rfl (by decide)) (fun k => hj _ k rfl (by decide)), ro_R_frame b (fun k => hj _ k rfl (by decide)) (fun k => hj _ k rfl (by decide)) (fun k => hj _ k rfl (by decide)) (fun k => hj _ k rfl (by decide)), ro_R_frame c (fun k => hj _ k rfl (by decide)) (fun k => hj _ k rfl (by decide)) (fun k => hj _ k rfl (by decide)) (fun k => hj _ k rfl (by decide)), fun n hn => ?_⟩
  rw [hj 32 n rfl (by decide), hj 40 n rfl (by decide)]
  exact d n hn
theorem ro_put {K sl : Int} {Z I : th_I} {t i k : Nat} {v : Int32} (hI : th_OI K sl Z I) (ht : ro_tag t = true) (h : ro_ok K sl t i k v.toInt) : th_OI K sl Z (th_u I t i k v) := by
  obtain ⟨h1, h2, h3, h4, h5⟩ := hI
  have ht20 : 20 ≤ t := by
    unfold ro_tag at ht
    simp only [Bool.and_eq_true, Nat.ble_eq] at ht
    exact ht.1
  refine ⟨fun t' i' k' => ?_, fun k' => ?_, h3, fun t' i' k' q => by rw [th_u_tag (by omega)]; exact h4 t' i' k' q, ro_RW_frame h5 (fun t' k' q _ => th_u_tag (ro_tag_ne ht q))⟩
  · rcases th_u_or I t i k v t' i' k' with ⟨rfl, rfl, rfl, e⟩ | e
    · rw [e]; exact h
    · rw [e]; exact h1 t' i' k'
  · rw [th_u_tag (ro_tag_ne ht rfl), th_u_tag (ro_tag_ne ht rfl), th_u_tag (ro_tag_ne ht rfl)]
    exact h2 k'
theorem ro_ok_mono {K K' sl v : Int} {t i k : Nat} (h : ro_ok K sl t i k v) (hK : K ≤ K') : ro_ok K' sl t i k v := by
  unfold ro_ok at h ⊢
  split at h <;> first | exact h | (split at h <;> first | exact h | exact ⟨h.1, Int.le_trans h.2 hK⟩)
theorem ro_mono {K K' sl : Int} {Z I : th_I} (hI : th_OI K sl Z I) (hK : K ≤ K') (h2 : K' ≤ 1000000) : th_OI K' sl Z I := by
  obtain ⟨h1, g2, ⟨h3, h4, h5, h6⟩, h7⟩ := hI
  exact ⟨fun t i k => ro_ok_mono (h1 t i k) hK, g2, ⟨h3, h4, Int.le_trans h5 hK, h2⟩, h7⟩
theorem ro_ok_sl {K sl sl' v : Int} {t i k : Nat} (h : ro_ok K sl t i k v) (q : ¬ (t = 20 ∧ k = 33)) : ro_ok K sl' t i k v := by
  unfold ro_ok at h ⊢
  split at h <;> first | exact h | (split at h <;> first | exact h | (exact absurd ⟨rfl, rfl⟩ q))
theorem ro_slice {K sl : Int} {Z I : th_I} {n : Int32} (hI : th_OI K sl Z I) (h : 1 ≤ n.toInt ∧ n.toInt ≤ 20) : th_OI K n.toInt Z (th_u I 20 0 33 n) := by
  obtain ⟨h1, h2, h3, h4, h5⟩ := hI
  refine ⟨fun t' i' k' => ?_, fun k' => ?_, ⟨h.1, h.2, h3.2.2.1, h3.2.2.2⟩, fun t' i' k' q => by rw [th_u_tag (by omega)]; exact h4 t' i' k' q, ro_RW_frame h5 (fun t' k' q _ => th_u_tag (ro_tag_ne rfl q))⟩
  · by_cases q : t' = 20 ∧ k' = 33
    · obtain ⟨rfl, rfl⟩ := q
      by_cases q2 : i' = 0
      · subst q2
        rw [th_u_eq]
        exact Or.inl rfl
      · exact Or.inr (by omega)
    · rcases th_u_or I 20 0 33 n t' i' k' with ⟨rfl, rfl, rfl, e⟩ | e
      · exact absurd ⟨rfl, rfl⟩ q
      · rw [e]
        exact ro_ok_sl (h1 t' i' k') q
  · rw [th_u_tag (by decide), th_u_tag (by decide), th_u_tag (by decide)]
    exact h2 k'

