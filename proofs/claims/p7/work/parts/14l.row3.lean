theorem ro_key38 {K sl : Int} {Z I : th_I} {tn : Nat} {v : Int32} (hI : th_OI K sl Z I) (h2 : ro_no I 46 47 3 tn) (hv : 0 ≤ v.toInt ∧ v.toInt ≤ 2) : th_OI K sl Z (th_u I 38 0 tn v) := by
  obtain ⟨g1, g2, g3, g4, g5, g6, g7, g8⟩ := hI
  refine ⟨fun t' i' k' => ?_, fun k' => by rw [th_u_tag (by decide), th_u_tag (by decide), th_u_tag (by decide)]; exact g2 k', g3, fun t' i' k' q => by rw [th_u_tag (by omega)]; exact g4 t' i' k' q, ro_R_upd g5 h2 (fun _ => th_u_tag (by decide)) (fun _ => th_u_tag (by decide)) (fun _ _ => th_u_tag (by decide)) (fun e he => th_u_slot he), ro_R_frame g6 (fun _ => th_u_tag (by decide)) (fun _ => th_u_tag (by decide)) (fun _ => th_u_tag (by decide)) (fun _ => th_u_tag (by decide)), ro_R_frame g7 (fun _ => th_u_tag (by decide)) (fun _ => th_u_tag (by decide)) (fun _ => th_u_tag (by decide)) (fun _ => th_u_tag (by decide)), fun n hn hs => ?_⟩
  · rcases th_u_or I 38 0 tn v t' i' k' with ⟨rfl, rfl, rfl, e⟩ | e
    · rw [e]; exact hv
    · rw [e]; exact g1 t' i' k'
  · rw [th_u_tag (by decide)] at hs ⊢
    exact g8 n hn hs
theorem ro_lockapp {K sl : Int} {Z I : th_I} {mn tn idx : Nat} {x v s : Int32} (hI : th_OI K sl Z I) (hm : mn < 3) (ht : tn < 5) (h46 : ro_no I 46 47 3 tn) (h48 : ro_no I 48 49 3 tn) (h50 : ro_no I 50 51 5 tn) (hk : (I 38 0 tn).toInt = (mn : Int)) (hidx : (idx : Int) = 5 * (mn : Int) + (I 47 0 mn).toInt) (hx : x.toInt = (I 47 0 mn).toInt + 1) (hv : v.toInt = (tn : Int)) (hs : s.toInt = 2) : th_OI K sl Z (th_u (th_u (th_u I 47 0 mn x) 46 0 idx v) 32 0 tn s) := by
  have hf := ro_full hI.2.2.2.2.1 h46 ht hm (fun k => hI.1 46 0 k) (hI.1 47 0 mn).2
  have h47 : 0 ≤ (I 47 0 mn).toInt := (hI.1 47 0 mn).1
  obtain ⟨n, hn⟩ := th_nat h47
  have hi : idx = 5 * mn + n := by omega
  subst hi
  obtain ⟨g1, g2, g3, g4, g5, g6, g7, g8⟩ := hI
  have f : ∀ t i k, t ≠ 32 → t ≠ 46 → t ≠ 47 → th_u (th_u (th_u I 47 0 mn x) 46 0 (5 * mn + n) v) 32 0 tn s t i k = I t i k := fun t i k a b c => by rw [th_u_tag a, th_u_tag b, th_u_tag c]
  have f32 : ∀ e, e ≠ tn → th_u (th_u (th_u I 47 0 mn x) 46 0 (5 * mn + n) v) 32 0 tn s 32 0 e = I 32 0 e := fun e he => by rw [th_u_slot he, th_u_tag (by decide), th_u_tag (by decide)]
  have f46 : ∀ k, k ≠ 5 * mn + n → th_u (th_u (th_u I 47 0 mn x) 46 0 (5 * mn + n) v) 32 0 tn s 46 0 k = I 46 0 k := fun k hk => by rw [th_u_tag (by decide), th_u_slot hk, th_u_tag (by decide)]
  have f47 : ∀ k, k ≠ mn → th_u (th_u (th_u I 47 0 mn x) 46 0 (5 * mn + n) v) 32 0 tn s 47 0 k = I 47 0 k := fun k hk => by rw [th_u_tag (by decide), th_u_tag (by decide), th_u_slot hk]
  refine ⟨fun t' i' k' => ?_, fun k' => by rw [f _ _ _ (by decide) (by decide) (by decide), f _ _ _ (by decide) (by decide) (by decide), f _ _ _ (by decide) (by decide) (by decide)]; exact g2 k', g3, fun t' i' k' q => by rw [f _ _ _ (by omega) (by omega) (by omega)]; exact g4 t' i' k' q, ?_, ?_, ?_, fun m hm hs2 => ?_⟩
  · rcases th_u_or (th_u (th_u I 47 0 mn x) 46 0 (5 * mn + n) v) 32 0 tn s t' i' k' with ⟨rfl, rfl, rfl, -⟩ | e
    · exact trivial
    · rw [e]
      rcases th_u_or (th_u I 47 0 mn x) 46 0 (5 * mn + n) v t' i' k' with ⟨rfl, rfl, rfl, e⟩ | e
      · rw [e]
        exact (⟨by omega, by omega⟩ : 0 ≤ v.toInt ∧ v.toInt ≤ 4)
      · rw [e]
        rcases th_u_or I 47 0 mn x t' i' k' with ⟨rfl, rfl, rfl, e⟩ | e
        · rw [e]
          exact (⟨by omega, by omega⟩ : 0 ≤ x.toInt ∧ x.toInt ≤ 5)
        · rw [e]; exact g1 t' i' k'
  · exact ro_R_app g5 h46 hm hn.symm (by rw [th_u_tag (by decide), th_u_eq]; exact hv) f46 (by rw [th_u_tag (by decide), th_u_tag (by decide), th_u_eq]; omega) f47 (by omega) (by rw [th_u_eq]; exact hs) (by rw [f _ _ _ (by decide) (by decide) (by decide)]; exact hk) f32 (fun e _ => f _ _ _ (by decide) (by decide) (by decide))
  · exact ro_R_upd g6 h48 (fun k => f _ _ _ (by decide) (by decide) (by decide)) (fun k => f _ _ _ (by decide) (by decide) (by decide)) f32 (fun e _ => f _ _ _ (by decide) (by decide) (by decide))
  · exact ro_R_upd g7 h50 (fun k => f _ _ _ (by decide) (by decide) (by decide)) (fun k => f _ _ _ (by decide) (by decide) (by decide)) f32 (fun e _ => f _ _ _ (by decide) (by decide) (by decide))
  · rw [f _ _ _ (by decide) (by decide) (by decide)]
    by_cases e : m = tn
    · subst e
      rw [th_u_eq] at hs2
      omega
    · rw [f32 m e] at hs2
      exact g8 m hm hs2

