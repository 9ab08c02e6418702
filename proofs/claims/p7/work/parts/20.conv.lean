theorem th_arrV {c : ClassId} {N : Nat} {f g : Nat → Value} (h : ∀ k, k < N → f k = g k) : arrV c N f = arrV c N g := by
  unfold arrV
  congr 1
  congr 1
  funext j
  exact h j.val j.isLt
def th_sl (t i : Nat) : Nat := match th_kd t with
  | (0, ci) => ((th_Cl[ci]?).map (fun r => r.2.2)).getD 0
  | _ => th_L0 t i
def th_eqv (mu mu' : th_M) (t i k : Nat) : Bool := if th_fr t k = true ∨ (th_kd t).1 = 2 then decide (mu'.2.2.1 t i k = mu.2.2.1 t i k) else decide (mu'.2.1 t i k = mu.2.1 t i k)
theorem th_fr_obj {t k : Nat} (h : th_fr t k = true) : (th_kd t).1 = 0 := by
  unfold th_fr at h
  split at h <;> first | rfl | (exact absurd h Bool.false_ne_true)
theorem th_fr_arr {t k a j : Nat} (hk : th_kd t = (a, j)) (ha : a ≠ 0) : th_fr t k = false := by
  cases h : th_fr t k
  · rfl
  · have := th_fr_obj h
    rw [hk] at this
    exact absurd this ha
theorem th_ck_ext {D : va_G} {cA : Nat → ClassId} {al : th_A} {mu mu' : th_M} {t i : Nat} {H : Heap} (h : th_ck D cA al mu t i H) (hL : mu.2.2.2.1 t i = th_L0 t i) (hL' : mu'.2.2.2.1 t i = th_L0 t i) (he : ∀ k, k < th_sl t i → th_eqv mu mu' t i k = true) : th_ck D cA al mu' t i H := by
  unfold th_ck at h ⊢
  unfold th_sl at he
  unfold th_eqv at he
  rcases hk : th_kd t with ⟨a, j⟩
  rw [hk] at h
  simp only [hk] at he
  rcases a with _ | _ | _ | a
  · obtain ⟨r, h1, h2⟩ := h
    refine ⟨r, h1, h2.to fun k hkN => ?_⟩
    have q := he k (by show k < ((th_Cl[j]?).map (fun r => r.2.2)).getD 0; rw [h1]; exact hkN)
    unfold th_fv
    by_cases f : th_fr t k = true
    · rw [if_pos (Or.inl f)] at q
      rw [if_pos f, if_pos f, of_decide_eq_true q]
    · rw [if_neg (by rintro (g | g); exact f g; exact absurd g (by decide))] at q
      rw [if_neg f, if_neg f, of_decide_eq_true q]
  · show H[al t i]? = _
    have h : H[al t i]? = _ := h
    rw [hL'] 
    rw [hL] at h
    rw [h]
    congr 1
    refine th_arrV fun k hkN => ?_
    have q := he k hkN
    by_cases f : th_fr t k = true
    · exfalso
      exact absurd f (by rw [th_fr_arr hk (by omega)]; decide)
    · rw [if_neg (by rintro (g | g); exact f g; exact absurd g (by show ¬ (0 + 1 = 2); decide))] at q
      rw [of_decide_eq_true q]
  · show H[al t i]? = _
    have h : H[al t i]? = _ := h
    rw [hL']
    rw [hL] at h
    rw [h]
    congr 1
    refine th_arrV fun k hkN => ?_
    have q := he k hkN
    rw [if_pos (Or.inr rfl)] at q
    rw [of_decide_eq_true q]
  · show H[al t i]? = _
    have h : H[al t i]? = _ := h
    rw [hL']
    rw [hL] at h
    rw [h]
    congr 1
    refine th_arrV fun k hkN => ?_
    have q := he k hkN
    by_cases f : th_fr t k = true
    · exfalso
      exact absurd f (by rw [th_fr_arr hk (by omega)]; decide)
    · rw [if_neg (by rintro (g | g); exact f g; exact absurd g (by show ¬ (a + 1 + 1 + 1 = 2); omega))] at q
      rw [of_decide_eq_true q]
theorem th_W_conv {D : va_G} {cA : Nat → ClassId} {base : Nat} {al : th_A} {mu mu' : th_M} {H : Heap} (h : th_W D cA base al mu H) (hc : ∀ t, mu'.1 t ≤ mu.1 t) (hL : mu.2.2.2.1 = th_L0) (hL' : mu'.2.2.2.1 = th_L0) (he : ∀ t i k, i < mu'.1 t → k < th_sl t i → th_eqv mu mu' t i k = true) (hz : mu'.2.2.2.2 = 0) : th_W D cA base al mu' H := by
  obtain ⟨a, b, d, f⟩ := h
  exact ⟨fun t i q => th_ck_ext (a t i (Nat.lt_of_lt_of_le q (hc t))) (by rw [hL]) (by rw [hL']) (fun k => he t i k q), fun t1 i1 t2 i2 q1 q2 => b t1 i1 t2 i2 (Nat.lt_of_lt_of_le q1 (hc t1)) (Nat.lt_of_lt_of_le q2 (hc t2)), fun t i q => d t i (Nat.lt_of_lt_of_le q (hc t)), Or.inl hz⟩
theorem th_cn_big (t : Nat) (h : 54 ≤ t) : th_cn t = 0 := by
  unfold th_cn
  split <;> first | omega | (rw [if_neg (by omega)])
def hm_end : th_M := th_mk hm_123 17 0
theorem hm_end_c : ∀ t, t < 54 → th_cn t ≤ hm_end.1 t := by decide +kernel
set_option maxRecDepth 100000 in
theorem hm_end_e : ∀ t, t < 54 → ∀ i, i < th_cn t → ∀ k, k < th_sl t i → th_eqv hm_end (th_m th_I0) t i k = true := by decide +kernel
theorem th_conv {l : Launch} {z : th_Z} {nL pc kc ks : Nat} {lv : List (Nat × th_V)} {st : List th_V} (k : th_G l z nL pc lv st (th_m th_I0) kc ks) : th_G l z nL pc lv st hm_end kc ks := by
  obtain ⟨p, e, R, s, m, args, below, meth, c, Q, D, cA, base, al⟩ := z
  intro H locs ls hw hS hl
  refine k H locs ls (th_W_conv hw (fun t => ?_) rfl rfl (fun t i k hi hk => ?_) rfl) hS hl
  · by_cases h : t < 54
    · exact hm_end_c t h
    · rw [show (th_m th_I0).1 t = 0 from th_cn_big t (by omega)]
      exact Nat.zero_le _
  · by_cases h : t < 54
    · exact hm_end_e t h i hi k hk
    · have hi : i < th_cn t := hi
      rw [th_cn_big t (by omega)] at hi
      exact absurd hi (Nat.not_lt_zero i)

