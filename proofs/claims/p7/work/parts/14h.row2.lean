theorem ro_state {K sl : Int} {Z I : th_I} {tn : Nat} {v : Int32} (hI : th_OI K sl Z I) (h2 : ro_no I 46 47 3 tn) (h3 : ro_no I 48 49 3 tn) (h4 : ro_no I 50 51 5 tn) (hv : v.toInt ≠ 3) : th_OI K sl Z (th_u I 32 0 tn v) := by
  obtain ⟨g1, g2, g3, g4, g5, g6, g7, g8⟩ := hI
  have q : ∀ e, e ≠ tn → th_u I 32 0 tn v 32 0 e = I 32 0 e := fun e he => th_u_slot he
  refine ⟨fun t' i' k' => ?_, fun k' => by rw [th_u_tag (by decide), th_u_tag (by decide), th_u_tag (by decide)]; exact g2 k', g3, fun t' i' k' q => by rw [th_u_tag (by omega)]; exact g4 t' i' k' q, ro_R_upd g5 h2 (fun _ => th_u_tag (by decide)) (fun _ => th_u_tag (by decide)) q (fun _ _ => th_u_tag (by decide)), ro_R_upd g6 h3 (fun _ => th_u_tag (by decide)) (fun _ => th_u_tag (by decide)) q (fun _ _ => th_u_tag (by decide)), ro_R_upd g7 h4 (fun _ => th_u_tag (by decide)) (fun _ => th_u_tag (by decide)) q (fun _ _ => th_u_tag (by decide)), fun n hn hs => ?_⟩
  · rcases th_u_or I 32 0 tn v t' i' k' with ⟨rfl, rfl, rfl, e⟩ | e
    · exact trivial
    · rw [e]; exact g1 t' i' k'
  · rw [th_u_tag (by decide)]
    by_cases e : n = tn
    · subst e
      rw [th_u_eq] at hs
      exact absurd hs hv
    · rw [q n e] at hs
      exact g8 n hn hs
theorem ro_app {K sl : Int} {Z I : th_I} {n tn : Nat} {o a b x : Int32} (hI : th_OI K sl Z I) (hv : th_valid o.toInt a.toInt b.toInt) (hx : 0 ≤ x.toInt ∧ x.toInt ≤ 24) : th_OI K sl Z (th_u (th_u (th_u (th_u I 21 0 n o) 22 0 n a) 23 0 n b) 24 0 tn x) := by
  obtain ⟨g1, g2, g3, g4, g5⟩ := hI
  refine ro_put ⟨fun t' i' k' => ?_, fun k' => ?_, g3, fun t' i' k' q => by rw [th_u_tag (by omega), th_u_tag (by omega), th_u_tag (by omega)]; exact g4 t' i' k' q, ?_⟩ rfl hx
  · rcases th_u_or (th_u (th_u I 21 0 n o) 22 0 n a) 23 0 n b t' i' k' with ⟨rfl, rfl, rfl, -⟩ | e
    · exact trivial
    · rw [e]
      rcases th_u_or (th_u I 21 0 n o) 22 0 n a t' i' k' with ⟨rfl, rfl, rfl, -⟩ | e
      · exact trivial
      · rw [e]
        rcases th_u_or I 21 0 n o t' i' k' with ⟨rfl, rfl, rfl, -⟩ | e
        · exact trivial
        · rw [e]; exact g1 t' i' k'
  · by_cases q : k' = n
    · subst q
      rw [th_u_tag (t' := 21) (by decide), th_u_tag (t' := 21) (by decide), th_u_eq, th_u_tag (t' := 22) (by decide), th_u_eq, th_u_eq]
      exact hv
    · rw [th_u_tag (t' := 21) (by decide), th_u_tag (t' := 21) (by decide), th_u_slot q, th_u_tag (t' := 22) (by decide), th_u_slot q, th_u_tag (t' := 22) (by decide), th_u_slot q, th_u_tag (t' := 23) (by decide), th_u_tag (t' := 23) (by decide)]
      exact g2 k'
  · obtain ⟨a1, a2, a3, a4⟩ := g5
    have f : ∀ t k, 24 ≤ t → th_u (th_u (th_u I 21 0 n o) 22 0 n a) 23 0 n b t 0 k = I t 0 k := fun t k h => by rw [th_u_tag (by omega), th_u_tag (by omega), th_u_tag (by omega)]
    refine ⟨ro_R_frame a1 (fun k => f _ k (by decide)) (fun k => f _ k (by decide)) (fun k => f _ k (by decide)) (fun k => f _ k (by decide)), ro_R_frame a2 (fun k => f _ k (by decide)) (fun k => f _ k (by decide)) (fun k => f _ k (by decide)) (fun k => f _ k (by decide)), ro_R_frame a3 (fun k => f _ k (by decide)) (fun k => f _ k (by decide)) (fun k => f _ k (by decide)) (fun k => f _ k (by decide)), fun m hm => ?_⟩
    rw [f 32 m (by decide), f 40 m (by decide)]
    exact a4 m hm

