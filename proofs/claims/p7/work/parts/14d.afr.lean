def ro_fr (I J : th_I) : Prop := ∀ t i k, t ≠ 25 → t ≠ 27 → J t i k = I t i k
def ro_rg (K sl : Int) (Z I : th_I) : Prop := (∀ t i k, ro_ok K sl t i k (I t i k).toInt) ∧ True ∧ (1 ≤ sl ∧ sl ≤ 20 ∧ 0 ≤ K ∧ K ≤ 1000000) ∧ ro_fr Z I
theorem ro_rgput {K sl : Int} {Z I : th_I} {t i k : Nat} {v : Int32} (h : ro_rg K sl Z I) (ht : t = 25 ∨ t = 27) : ro_rg K sl Z (th_u I t i k v) := by
  obtain ⟨g1, g2, g3, g4⟩ := h
  refine ⟨fun t' i' k' => ?_, g2, g3, fun t' i' k' a b => by rw [th_u_tag (by omega)]; exact g4 t' i' k' a b⟩
  rcases th_u_or I t i k v t' i' k' with ⟨rfl, rfl, rfl, e⟩ | e
  · rcases ht with rfl | rfl
    · exact trivial
    · exact trivial
  · rw [e]; exact g1 t' i' k'

