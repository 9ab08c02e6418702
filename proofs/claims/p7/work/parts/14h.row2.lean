theorem ro_state {K sl : Int} {Z I : th_I} {tn : Nat} {v : Int32} (hI : th_OI K sl Z I) (h2 : ro_no I 46 47 3 tn) (h3 : ro_no I 48 49 3 tn) (h4 : ro_no I 50 51 5 tn) (hv : v.toInt ≠ 3) : th_OI K sl Z (th_u I 32 0 tn v) := by
  obtain ⟨g1, g2, g3, g4, g5, g6, g7, g8⟩ := hI
  have q : ∀ e, e ≠ tn → th_u I 32 0 tn v 32 0 e = I 32 0 e := fun e he => th_u_slot he
  refine ⟨fun t' i' k' => ?_, fun k' => by rw [th_u_tag (by decide), th_u_tag (by decide), th_u_tag (by decide)]; exact g2 k', g3, fun t' i' k' q => by rw [th_u_tag (by omega)]; exact g4 t' i' k' q, ro_R_upd g5 h2 (fun _ => th_u_tag (by decide)) (fun _ => th_u_tag (by decide)) q (fun _ _ => th_u_tag (by decide)), ro_R_upd g6 h3 (fun _ => th_u_tag (by decide)) (fun _ => th_u_tag (by decide)) q (fun _ _ => th_u_tag (by decide)), ro_R_upd g7 h4 (fun _ => th_u_tag (by decide)) (fun _ => th_u_tag (by decide)) q (fun _ _ => th_u_tag (by decide)), fun n hn hs => ?_⟩
  · rcases th_u_or I 32 0 tn v t' i' k' with ⟨rfl, rfl, rfl, e⟩ | e
    · exact trivial
    · rw [e]; exact g1 t' i' k'
  · rw [th_u_tag (by decide)]
    by_cases e : n = tn
    · subst e
      rw [th_u_eq] at hs
      exact absurd hs hv
    · rw [q n e] at hs
      exact g8 n hn hs

