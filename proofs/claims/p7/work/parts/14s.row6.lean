def ro_en (K sl : Int) (Z I : th_I) (tn : Nat) (J : th_I) : Prop :=
  (∀ t i q, ro_ok K sl t i q (J t i q).toInt) ∧ (∀ t i q, t < 20 → J t i q = Z t i q) ∧ (∀ t i q, t ≠ 25 → t ≠ 27 → t ≠ 32 → J t i q = I t i q) ∧
  (∀ e : Nat, J 32 0 e = I 32 0 e ∨ ((J 32 0 e).toInt = 1 ∧ ro_in I 50 51 tn (e : Int)))
theorem ro_en0 {K sl : Int} {Z I : th_I} {tn : Nat} (h : th_OI K sl Z I) : ro_en K sl Z I tn I :=
  ⟨h.1, h.2.2.2.1, fun _ _ _ _ _ _ => rfl, fun _ => Or.inl rfl⟩
theorem ro_en_rg {K sl : Int} {Z I J : th_I} {tn : Nat} (h : ro_en K sl Z I tn J) (hb : 1 ≤ sl ∧ sl ≤ 20 ∧ 0 ≤ K ∧ K ≤ 1000000) : ro_rg K sl J J := ⟨h.1, trivial, hb, fun _ _ _ _ _ => rfl⟩
theorem ro_en_put {K sl : Int} {Z I J J' : th_I} {tn : Nat} (h : ro_en K sl Z I tn J) (h' : ro_rg K sl J J') : ro_en K sl Z I tn J' := by
  obtain ⟨a1, a2, a3, a4⟩ := h
  obtain ⟨b1, -, -, b4⟩ := h'
  exact ⟨b1, fun t i q ht => by rw [b4 t i q (by omega) (by omega)]; exact a2 t i q ht, fun t i q x y z => by rw [b4 t i q x y]; exact a3 t i q x y z, fun e => by rw [b4 32 0 e (by decide) (by decide)]; exact a4 e⟩
theorem ro_en1 {K sl k : Int} {Z I J0 J : th_I} {tn jn b : Nat} {s : Int32} (h0 : ro_en K sl Z I tn J0) (h : ro_en K sl Z I tn J) (hk : 0 ≤ k ∧ k < 5 ∧ k < (I 51 0 tn).toInt) (hb : (b : Int) = 5 * (tn : Int) + k) (hv : (jn : Int) = (J0 50 0 b).toInt) (hs : s.toInt = 1) : ro_en K sl Z I tn (th_u J 32 0 jn s) := by
  obtain ⟨a1, a2, a3, a4⟩ := h
  refine ⟨fun t' i' k' => ?_, fun t i q ht => by rw [th_u_tag (by omega)]; exact a2 t i q ht, fun t i q x y z => by rw [th_u_tag z]; exact a3 t i q x y z, fun e => ?_⟩
  · rcases th_u_or J 32 0 jn s t' i' k' with ⟨rfl, rfl, rfl, e⟩ | e
    · exact trivial
    · rw [e]; exact a1 t' i' k'
  · by_cases c : e = jn
    · subst c
      rw [th_u_eq]
      obtain ⟨kn, hkn⟩ := th_nat hk.1
      refine Or.inr ⟨hs, kn, by omega, by omega, ?_⟩
      have q : b = 5 * tn + kn := by omega
      rw [← q, ← h0.2.2.1 50 0 b (by decide) (by decide) (by decide)]
      exact hv.symm
    · rw [th_u_slot c]
      exact a4 e
theorem ro_enend {K sl : Int} {Z I J : th_I} {tn : Nat} {v : Int32} (h : ro_en K sl Z I tn J) (hI : th_OI K sl Z I) (ht : tn < 5) (hv : v.toInt = 0) : th_OI K sl Z (th_u J 51 0 tn v) := by
  obtain ⟨a1, a2, a3, a4⟩ := h
  obtain ⟨g1, g2, g3, g4, g5, g6, g7, g8⟩ := hI
  have f : ∀ t q, t ≠ 25 → t ≠ 27 → t ≠ 32 → t ≠ 51 → th_u J 51 0 tn v t 0 q = I t 0 q := fun t q x y z w => by rw [th_u_tag w]; exact a3 t 0 q x y z
  have f32 : ∀ e, th_u J 51 0 tn v 32 0 e = J 32 0 e := fun e => th_u_tag (by decide)
  have in4 : ∀ e : Nat, ro_in I 50 51 tn (e : Int) → (I 32 0 e).toInt = 4 ∧ (I 40 0 e).toInt = (tn : Int) := by
    rintro e ⟨k, k1, k2, k3⟩
    exact g7.1 tn ht k k1 k2 e k3
  have same : ∀ e : Nat, (I 32 0 e).toInt ≠ 4 → J 32 0 e = I 32 0 e := by
    intro e he
    rcases a4 e with q | ⟨-, q⟩
    · exact q
    · exact absurd (in4 e q).1 he
  refine ⟨fun t' i' k' => ?_, fun k' => by rw [f 21 k' (by decide) (by decide) (by decide) (by decide), f 22 k' (by decide) (by decide) (by decide) (by decide), f 23 k' (by decide) (by decide) (by decide) (by decide)]; exact g2 k', g3, fun t' i' k' q => by rw [th_u_tag (by omega)]; exact a2 t' i' k' q, ⟨fun r hr k hk hq e he => ?_, fun r hr k1 k2 q1 q2 hq => ?_⟩, ⟨fun r hr k hk hq e he => ?_, fun r hr k1 k2 q1 q2 hq => ?_⟩, ⟨fun r hr k hk hq e he => ?_, fun r hr k1 k2 q1 q2 hq => ?_⟩, fun m hm hs => ?_⟩
  · rcases th_u_or J 51 0 tn v t' i' k' with ⟨rfl, rfl, rfl, e⟩ | e
    · rw [e]; exact (⟨by omega, by omega⟩ : 0 ≤ v.toInt ∧ v.toInt ≤ 5)
    · rw [e]; exact a1 t' i' k'
  · rw [f 47 r (by decide) (by decide) (by decide) (by decide)] at hq
    rw [f 46 _ (by decide) (by decide) (by decide) (by decide)] at he
    have key := g5.1 r hr k hk hq e he
    rw [f32, same e (by rw [key.1]; decide), f 38 e (by decide) (by decide) (by decide) (by decide)]
    exact key
  · rw [f 47 r (by decide) (by decide) (by decide) (by decide)] at hq
    rw [f 46 _ (by decide) (by decide) (by decide) (by decide), f 46 _ (by decide) (by decide) (by decide) (by decide)]
    exact g5.2 r hr k1 k2 q1 q2 hq
  · rw [f 49 r (by decide) (by decide) (by decide) (by decide)] at hq
    rw [f 48 _ (by decide) (by decide) (by decide) (by decide)] at he
    have key := g6.1 r hr k hk hq e he
    rw [f32, same e (by rw [key.1]; decide), f 40 e (by decide) (by decide) (by decide) (by decide)]
    exact key
  · rw [f 49 r (by decide) (by decide) (by decide) (by decide)] at hq
    rw [f 48 _ (by decide) (by decide) (by decide) (by decide), f 48 _ (by decide) (by decide) (by decide) (by decide)]
    exact g6.2 r hr k1 k2 q1 q2 hq
  · by_cases c : r = tn
    · subst c
      rw [th_u_eq] at hq
      omega
    · rw [th_u_slot c, a3 51 0 r (by decide) (by decide) (by decide)] at hq
      rw [f 50 _ (by decide) (by decide) (by decide) (by decide)] at he
      have key := g7.1 r hr k hk hq e he
      rcases a4 e with q | ⟨-, q⟩
      · rw [f32, q, f 40 e (by decide) (by decide) (by decide) (by decide)]
        exact key
      · have := (in4 e q).2
        omega
  · by_cases c : r = tn
    · subst c
      rw [th_u_eq] at hq
      omega
    · rw [th_u_slot c, a3 51 0 r (by decide) (by decide) (by decide)] at hq
      rw [f 50 _ (by decide) (by decide) (by decide) (by decide), f 50 _ (by decide) (by decide) (by decide) (by decide)]
      exact g7.2 r hr k1 k2 q1 q2 hq
  · rw [f32] at hs
    rw [f 40 m (by decide) (by decide) (by decide) (by decide)]
    rcases a4 m with q | ⟨q, -⟩
    · rw [q] at hs
      exact g8 m hm hs
    · omega
theorem ro_key40 {K sl : Int} {Z I : th_I} {tn : Nat} {v : Int32} (hI : th_OI K sl Z I) (h3 : ro_no I 48 49 3 tn) (h4 : ro_no I 50 51 5 tn) (hs : (I 32 0 tn).toInt ≠ 3) (hv : 0 ≤ v.toInt ∧ v.toInt ≤ 4) : th_OI K sl Z (th_u I 40 0 tn v) := by
  obtain ⟨g1, g2, g3, g4, g5, g6, g7, g8⟩ := hI
  refine ⟨fun t' i' k' => ?_, fun k' => by rw [th_u_tag (by decide), th_u_tag (by decide), th_u_tag (by decide)]; exact g2 k', g3, fun t' i' k' q => by rw [th_u_tag (by omega)]; exact g4 t' i' k' q, ro_R_frame g5 (fun _ => th_u_tag (by decide)) (fun _ => th_u_tag (by decide)) (fun _ => th_u_tag (by decide)) (fun _ => th_u_tag (by decide)), ro_R_upd g6 h3 (fun _ => th_u_tag (by decide)) (fun _ => th_u_tag (by decide)) (fun _ _ => th_u_tag (by decide)) (fun e he => th_u_slot he), ro_R_upd g7 h4 (fun _ => th_u_tag (by decide)) (fun _ => th_u_tag (by decide)) (fun _ _ => th_u_tag (by decide)) (fun e he => th_u_slot he), fun n hn hs2 => ?_⟩
  · rcases th_u_or I 40 0 tn v t' i' k' with ⟨rfl, rfl, rfl, e⟩ | e
    · rw [e]; exact hv
    · rw [e]; exact g1 t' i' k'
  · rw [th_u_tag (by decide)] at hs2
    by_cases e : n = tn
    · subst e
      exact absurd hs2 hs
    · rw [th_u_slot e]
      exact g8 n hn hs2
theorem ro_state3 {K sl : Int} {Z I : th_I} {tn : Nat} {v : Int32} (hI : th_OI K sl Z I) (h2 : ro_no I 46 47 3 tn) (h3 : ro_no I 48 49 3 tn) (h4 : ro_no I 50 51 5 tn) (hv : (I 40 0 tn).toInt ≤ 2) : th_OI K sl Z (th_u I 32 0 tn v) := by
  obtain ⟨g1, g2, g3, g4, g5, g6, g7, g8⟩ := hI
  have q : ∀ e, e ≠ tn → th_u I 32 0 tn v 32 0 e = I 32 0 e := fun e he => th_u_slot he
  refine ⟨fun t' i' k' => ?_, fun k' => by rw [th_u_tag (by decide), th_u_tag (by decide), th_u_tag (by decide)]; exact g2 k', g3, fun t' i' k' q => by rw [th_u_tag (by omega)]; exact g4 t' i' k' q, ro_R_upd g5 h2 (fun _ => th_u_tag (by decide)) (fun _ => th_u_tag (by decide)) q (fun _ _ => th_u_tag (by decide)), ro_R_upd g6 h3 (fun _ => th_u_tag (by decide)) (fun _ => th_u_tag (by decide)) q (fun _ _ => th_u_tag (by decide)), ro_R_upd g7 h4 (fun _ => th_u_tag (by decide)) (fun _ => th_u_tag (by decide)) q (fun _ _ => th_u_tag (by decide)), fun n hn hs => ?_⟩
  · rcases th_u_or I 32 0 tn v t' i' k' with ⟨rfl, rfl, rfl, e⟩ | e
    · exact trivial
    · rw [e]; exact g1 t' i' k'
  · rw [th_u_tag (by decide)]
    by_cases e : n = tn
    · subst e
      exact hv
    · rw [q n e] at hs
      exact g8 n hn hs
theorem ro_rem5 {x : Int32} (h0 : 0 ≤ x.toInt) (h1 : x.toInt ≤ 20) : (x - x / 5 * 5).toInt = x.toInt % 5 := by
  have key : ∀ n : Nat, n < 21 → (Int32.ofInt (n : Int) - Int32.ofInt (n : Int) / 5 * 5).toInt = (Int32.ofInt (n : Int)).toInt % 5 := by decide +kernel
  have hx : x = Int32.ofInt x.toInt := (Int32.ofInt_toInt x).symm
  obtain ⟨n, hn⟩ : ∃ n : Nat, x.toInt = (n : Int) := ⟨x.toInt.toNat, by omega⟩
  rw [hn] at hx
  rw [hx]
  exact key n (by omega)
def ro_rd (I : th_I) (x : Int) : Prop := (x = -1 ∧ ∀ e : Nat, e < 5 → (I 32 0 e).toInt ≠ 1) ∨ (0 ≤ x ∧ x ≤ 4 ∧ ∀ e : Nat, (e : Int) = x → (I 32 0 e).toInt = 1)
theorem ro_rdy {I : th_I} {x y : Int} (p : ro_rd I x) (q : ro_rd I y) (h : 0 ≤ x) : 0 ≤ y ∧ y ≤ 4 ∧ ∀ e : Nat, (e : Int) = y → (I 32 0 e).toInt = 1 := by
  rcases q with ⟨q1, q2⟩ | q
  · rcases p with ⟨p1, -⟩ | ⟨p1, p2, p3⟩
    · omega
    · obtain ⟨n, hn⟩ := th_nat p1
      exact absurd (p3 n hn) (q2 n (by omega))
  · exact q
theorem ro_rdend {I : th_I} {c k : Int} (hc : -1 ≤ c ∧ c ≤ 4) (hk : 6 ≤ k) (h : ∀ e j : Nat, e < 5 → 1 ≤ j → (j : Int) < k → (e : Int) = (c + (j : Int) + 5) % 5 → (I 32 0 e).toInt ≠ 1) : ∀ e : Nat, e < 5 → (I 32 0 e).toInt ≠ 1 := by
  intro e he
  obtain ⟨j, hj⟩ := th_nat (a := ((e : Int) - c + 4) % 5 + 1) (by omega)
  exact h e j he (by omega) (by omega) (by omega)
theorem ro_rdstep {I : th_I} {c k k' : Int} {n : Nat} (h : ∀ e j : Nat, e < 5 → 1 ≤ j → (j : Int) < k → (e : Int) = (c + (j : Int) + 5) % 5 → (I 32 0 e).toInt ≠ 1) (hk : k' = k + 1) (hn : (n : Int) = (c + k + 5) % 5) (hs : (I 32 0 n).toInt ≠ 1) : ∀ e j : Nat, e < 5 → 1 ≤ j → (j : Int) < k' → (e : Int) = (c + (j : Int) + 5) % 5 → (I 32 0 e).toInt ≠ 1 := by
  intro e j he hj hk2 q
  by_cases q2 : (j : Int) < k
  · exact h e j he hj q2 q
  · have q3 : (j : Int) = k := by omega
    rw [q3] at q
    have q4 : e = n := by omega
    rw [q4]
    exact hs
theorem ro_rowW {K sl : Int} {Z I : th_I} {cn tn idx : Nat} {x v : Int32} (hI : th_OI K sl Z I) (hc : cn < 3) (ht : tn < 5) (hn : ro_no I 48 49 3 tn) (hs : (I 32 0 tn).toInt = 3) (hk : (I 40 0 tn).toInt = (cn : Int)) (hidx : (idx : Int) = 5 * (cn : Int) + (I 49 0 cn).toInt) (hx : x.toInt = (I 49 0 cn).toInt + 1) (hv : v.toInt = (tn : Int)) : th_OI K sl Z (th_u (th_u I 49 0 cn x) 48 0 idx v) := by
  have hf := ro_full hI.2.2.2.2.2.1 hn ht hc (fun k => hI.1 48 0 k) (hI.1 49 0 cn).2
  have h49 : 0 ≤ (I 49 0 cn).toInt := (hI.1 49 0 cn).1
  obtain ⟨n, hnn⟩ := th_nat h49
  have hi : idx = 5 * cn + n := by omega
  subst hi
  obtain ⟨g1, g2, g3, g4, g5, g6, g7, g8⟩ := hI
  have f : ∀ t i k, t ≠ 48 → t ≠ 49 → th_u (th_u I 49 0 cn x) 48 0 (5 * cn + n) v t i k = I t i k := fun t i k a b => by rw [th_u_tag a, th_u_tag b]
  refine ⟨fun t' i' k' => ?_, fun k' => by rw [f 21 _ _ (by decide) (by decide), f 22 _ _ (by decide) (by decide), f 23 _ _ (by decide) (by decide)]; exact g2 k', g3, fun t' i' k' q => by rw [f _ _ _ (by omega) (by omega)]; exact g4 t' i' k' q, ?_, ?_, ?_, fun m hm hs2 => ?_⟩
  · rcases th_u_or (th_u I 49 0 cn x) 48 0 (5 * cn + n) v t' i' k' with ⟨rfl, rfl, rfl, e⟩ | e
    · rw [e]; exact (⟨by omega, by omega⟩ : 0 ≤ v.toInt ∧ v.toInt ≤ 4)
    · rw [e]
      rcases th_u_or I 49 0 cn x t' i' k' with ⟨rfl, rfl, rfl, e⟩ | e
      · rw [e]; exact (⟨by omega, by omega⟩ : 0 ≤ x.toInt ∧ x.toInt ≤ 5)
      · rw [e]; exact g1 t' i' k'
  · exact ro_R_frame g5 (fun k => f _ _ _ (by decide) (by decide)) (fun k => f _ _ _ (by decide) (by decide)) (fun k => f _ _ _ (by decide) (by decide)) (fun k => f _ _ _ (by decide) (by decide))
  · exact ro_R_app g6 hn hc hnn.symm (by rw [th_u_eq]; exact hv) (fun k hk => by rw [th_u_slot hk, th_u_tag (by decide)]) (by rw [th_u_tag (by decide), th_u_eq]; omega) (fun q hq => by rw [th_u_tag (by decide), th_u_slot hq]) (by omega) (by rw [f 32 _ _ (by decide) (by decide)]; exact hs) (by rw [f 40 _ _ (by decide) (by decide)]; exact hk) (fun e _ => f _ _ _ (by decide) (by decide)) (fun e _ => f _ _ _ (by decide) (by decide))
  · exact ro_R_frame g7 (fun k => f _ _ _ (by decide) (by decide)) (fun k => f _ _ _ (by decide) (by decide)) (fun k => f _ _ _ (by decide) (by decide)) (fun k => f _ _ _ (by decide) (by decide))
  · rw [f 40 _ _ (by decide) (by decide)]
    rw [f 32 _ _ (by decide) (by decide)] at hs2
    exact g8 m hm hs2
theorem ro_rowJ {K sl : Int} {Z I : th_I} {cn tn idx : Nat} {x v : Int32} (hI : th_OI K sl Z I) (hc : cn < 5) (ht : tn < 5) (hn : ro_no I 50 51 5 tn) (hs : (I 32 0 tn).toInt = 4) (hk : (I 40 0 tn).toInt = (cn : Int)) (hidx : (idx : Int) = 5 * (cn : Int) + (I 51 0 cn).toInt) (hx : x.toInt = (I 51 0 cn).toInt + 1) (hv : v.toInt = (tn : Int)) : th_OI K sl Z (th_u (th_u I 51 0 cn x) 50 0 idx v) := by
  have hf := ro_full hI.2.2.2.2.2.2.1 hn ht hc (fun k => hI.1 50 0 k) (hI.1 51 0 cn).2
  have h49 : 0 ≤ (I 51 0 cn).toInt := (hI.1 51 0 cn).1
  obtain ⟨n, hnn⟩ := th_nat h49
  have hi : idx = 5 * cn + n := by omega
  subst hi
  obtain ⟨g1, g2, g3, g4, g5, g6, g7, g8⟩ := hI
  have f : ∀ t i k, t ≠ 50 → t ≠ 51 → th_u (th_u I 51 0 cn x) 50 0 (5 * cn + n) v t i k = I t i k := fun t i k a b => by rw [th_u_tag a, th_u_tag b]
  refine ⟨fun t' i' k' => ?_, fun k' => by rw [f 21 _ _ (by decide) (by decide), f 22 _ _ (by decide) (by decide), f 23 _ _ (by decide) (by decide)]; exact g2 k', g3, fun t' i' k' q => by rw [f _ _ _ (by omega) (by omega)]; exact g4 t' i' k' q, ?_, ?_, ?_, fun m hm hs2 => ?_⟩
  · rcases th_u_or (th_u I 51 0 cn x) 50 0 (5 * cn + n) v t' i' k' with ⟨rfl, rfl, rfl, e⟩ | e
    · rw [e]; exact (⟨by omega, by omega⟩ : 0 ≤ v.toInt ∧ v.toInt ≤ 4)
    · rw [e]
      rcases th_u_or I 51 0 cn x t' i' k' with ⟨rfl, rfl, rfl, e⟩ | e
      · rw [e]; exact (⟨by omega, by omega⟩ : 0 ≤ x.toInt ∧ x.toInt ≤ 5)
      · rw [e]; exact g1 t' i' k'
  · exact ro_R_frame g5 (fun k => f _ _ _ (by decide) (by decide)) (fun k => f _ _ _ (by decide) (by decide)) (fun k => f _ _ _ (by decide) (by decide)) (fun k => f _ _ _ (by decide) (by decide))
  · exact ro_R_frame g6 (fun k => f _ _ _ (by decide) (by decide)) (fun k => f _ _ _ (by decide) (by decide)) (fun k => f _ _ _ (by decide) (by decide)) (fun k => f _ _ _ (by decide) (by decide))
  · exact ro_R_app g7 hn hc hnn.symm (by rw [th_u_eq]; exact hv) (fun k hk => by rw [th_u_slot hk, th_u_tag (by decide)]) (by rw [th_u_tag (by decide), th_u_eq]; omega) (fun q hq => by rw [th_u_tag (by decide), th_u_slot hq]) (by omega) (by rw [f 32 _ _ (by decide) (by decide)]; exact hs) (by rw [f 40 _ _ (by decide) (by decide)]; exact hk) (fun e _ => f _ _ _ (by decide) (by decide)) (fun e _ => f _ _ _ (by decide) (by decide))
  · rw [f 40 _ _ (by decide) (by decide)]
    rw [f 32 _ _ (by decide) (by decide)] at hs2
    exact g8 m hm hs2

