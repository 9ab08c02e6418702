theorem th_okR_mono {rmy rm : Room} {mL kc ks kc' ks' : Nat} (h : th_okR rmy rm mL kc' ks' = true) (h1 : kc ≤ kc') (h2 : ks ≤ ks') : th_okR rmy rm mL kc ks = true := by
  simp only [th_okR, Bool.and_eq_true, Nat.ble_eq] at h ⊢
  obtain ⟨⟨⟨a, b⟩, c⟩, d⟩ := h
  exact ⟨⟨⟨a, b⟩, by omega⟩, by omega⟩
theorem th_Gw {l : Launch} {z : th_Z} {nL pc kc ks kc' ks' : Nat} {lv : List (Nat × th_V)} {st : List th_V} {mu : th_M} (h1 : kc ≤ kc') (h2 : ks ≤ ks') (k : th_G l z nL pc lv st mu kc' ks') : th_G l z nL pc lv st mu kc ks := by
  obtain ⟨p, e, R, s, m, args, below, meth, c, Q, D, cA, base, al⟩ := z
  intro H locs ls hw hS hl
  exact W.widen h1 h2 (k H locs ls hw hS hl)
theorem th_ok_hi {K sl v : Int} {t i k : Nat} (h : 17 ≤ t) : th_ok K sl t i k v := by
  unfold th_ok
  split <;> first | exact trivial | (exfalso; omega)
theorem ro_ok_lo {K sl v : Int} {t i k : Nat} (h : t < 20) : ro_ok K sl t i k v := by
  unfold ro_ok
  split <;> first | exact trivial | (exfalso; omega)
theorem th_Inv_fr {K sl : Int} {Z I J : th_I} (h : th_Inv K sl Z I) (f : ∀ t i k, t < 17 → J t i k = I t i k) : th_Inv K sl J J := by
  obtain ⟨h1, h2, h3, -⟩ := h
  refine ⟨fun t i k => ?_, fun i k => by rw [f 8 i k (by decide), f 9 i k (by decide), f 10 i k (by decide)]; exact h2 i k, h3, fun _ _ _ _ => rfl⟩
  by_cases q : t < 17
  · rw [f t i k q]
    exact h1 t i k
  · exact th_ok_hi (by omega)
theorem ro_OI_fr {K sl : Int} {Z I J : th_I} (h : th_OI K sl Z I) (f : ∀ t i k, 20 ≤ t → J t i k = I t i k) : th_OI K sl J J := by
  obtain ⟨h1, h2, h3, -, h5⟩ := h
  refine ⟨fun t i k => ?_, fun k => by rw [f 21 0 k (by decide), f 22 0 k (by decide), f 23 0 k (by decide)]; exact h2 k, h3, fun _ _ _ _ => rfl, ro_RW_frame h5 (fun t k _ q => f t 0 k q)⟩
  by_cases q : 20 ≤ t
  · rw [f t i k q]
    exact h1 t i k
  · exact ro_ok_lo (by omega)
theorem th_nIi (i : Nat) : (nI i).toInt = (i : Int) ∨ 5 ≤ i := by
  by_cases h : i < 5
  · exact Or.inl ((by decide : ∀ i, i < 5 → (nI i).toInt = (i : Int)) i h)
  · exact Or.inr (by omega)
theorem th_OI0 : th_OI 0 4 th_I0 th_I0 := by
  have z0 : (0 : Int32).toInt = 0 := by decide
  have z1 : (-1 : Int32).toInt = -1 := by decide
  have z2 : (24 : Int32).toInt = 24 := by decide
  have z3 : (4 : Int32).toInt = 4 := by decide
  have n0 : ∀ k : Nat, ¬ ((k : Int) < (0 : Int32).toInt) := fun k => by omega
  refine ⟨fun t i k => ?_, fun k => ?_, by omega, fun _ _ _ _ => rfl, ⟨fun r _ k _ h => absurd h (n0 k), fun r _ k k2 _ _ h => absurd h (n0 k2)⟩, ⟨fun r _ k _ h => absurd h (n0 k), fun r _ k k2 _ _ h => absurd h (n0 k2)⟩, ⟨fun r _ k _ h => absurd h (n0 k), fun r _ k k2 _ _ h => absurd h (n0 k2)⟩, fun n _ h => ?_⟩
  · unfold ro_ok
    split <;> first
      | exact trivial
      | (show 0 ≤ (0 : Int32).toInt ∧ (0 : Int32).toInt ≤ _; omega)
      | (show 0 ≤ (24 : Int32).toInt ∧ (24 : Int32).toInt ≤ _; omega)
      | (split <;> first
          | exact trivial
          | (show 0 ≤ (0 : Int32).toInt ∧ (0 : Int32).toInt ≤ _; omega)
          | (show -1 ≤ (-1 : Int32).toInt ∧ (-1 : Int32).toInt ≤ _; omega)
          | (exact Or.inl z3))
  · show th_valid (0 : Int32).toInt (0 : Int32).toInt (0 : Int32).toInt
    unfold th_valid
    omega
  · have h : (0 : Int32).toInt = 3 := h
    omega
theorem th_ofL {L : Nat} (h : L ≤ 2560) : (Int32.ofNat L).toInt = (L : Int) := Int32.toInt_ofNat_of_lt (by omega)
theorem th_ps1 {α : Type} {P : α → Prop} {a : α} (h : P a) : ∀ q ∈ [a], P q := by
  intro q hq
  rcases List.mem_cons.mp hq with rfl | hq
  · exact h
  · exact absurd hq List.not_mem_nil
theorem th_ps2 {α : Type} {P : α → Prop} {a b : α} (h1 : P a) (h2 : P b) : ∀ q ∈ [a, b], P q := by
  intro q hq
  rcases List.mem_cons.mp hq with rfl | hq
  · exact h1
  · exact th_ps1 h2 q hq

