theorem th_eqE {args : Array Value} {s : State} {t : Term} {z : Int32} (h : (Cond.eq t (.int z)).before args s = true) : t.eval args s none [] s = some (.int z) := by
  cases hv : t.eval args s none [] s with
  | none => simp [Cond.before, Cond.holds, Cond.value, hv] at h
  | some w =>
    have hz : (Term.int z).eval args s none [] s = some (.int z) := rfl
    simp only [Cond.before, Cond.holds, Cond.value, hv, hz] at h
    cases w <;> simp_all
theorem th_len31 {args : Array Value} {s : State} {t : Term} {v : Value} {a : Addr} {cell : Cell} (hv : (Term.length t).eval args s none [] s = some v) (ht : t.eval args s none [] s = some (.ref a)) (harr : s.arrayAt? a = some cell) : cell.slots.size < 2 ^ 31 := by
  simp only [Term.eval, ht, harr, Option.bind_eq_bind, Option.bind_some] at hv
  by_cases hlt : cell.slots.size < 2147483648
  · exact hlt
  · simp [hlt] at hv
theorem th_stat {args : Array Value} {s : State} {C n : String} {xs : List Int32} {A : Nat → Prop} (hxs : xs.length < 1000) (hl : (Cond.laysStatic C n "[I").before args s = true) (hini : (Cond.initialized C).before args s = true) (h1 : (Cond.arrayOf (.static C n "[I") .int).before args s = true) (h2 : (Cond.eq (.length (.static C n "[I")) (.int (Int32.ofNat xs.length))).before args s = true)
    (h3 : ∀ j, j < xs.length → (Cond.eq (.elem (.static C n "[I") (.int (Int32.ofNat j))) (.int (xs.getD j 0))).before args s = true) (hA : ∀ a : Nat, a < s.heap.size → ¬ A a) : ∃ a : Nat, va_Z C n "[I" (.ref a) A s s.heap ∧ va_X a xs.length (fun k => xs.getD k 0) s s.heap ∧ a < s.heap.size := by
  have hv := th_eqE h2
  obtain ⟨a, cell, ht, harr, hv2⟩ := Term.length_spec hv
  have hsz : cell.slots.size < 2 ^ 31 := th_len31 hv ht harr
  obtain ⟨hcell, hkn, -, -⟩ := State.arrayAt?_spec harr
  have hof := (Cond.arrayOf_spec h1 ht hcell).1
  have hlen : cell.slots.size = xs.length := by
    have e : Int32.ofNat xs.length = Int32.ofNat cell.slots.size := by
      injection hv2
    have q1 : cell.slots.size ≤ xs.length := (Int32.ofNat_le_ofNat hsz (by omega)).mp (by rw [e]; exact Int32.le_refl _)
    have q2 : xs.length ≤ cell.slots.size := (Int32.ofNat_le_ofNat (by omega) hsz).mp (by rw [e]; exact Int32.le_refl _)
    omega
  refine ⟨a, va_Zof hl hini ht hA, ⟨cell, hcell, hof, hkn, hlen, fun j hj => ?_⟩, (Array.getElem?_eq_some_iff.mp hcell).1⟩
  obtain ⟨a2, j2, cell2, g1, g2, g3, -, g5⟩ := Term.elem_spec (th_eqE (h3 j hj))
  cases Option.some.inj (ht.symm.trans g1)
  cases Option.some.inj (harr.symm.trans g3)
  have g2 : some (Value.int (Int32.ofNat j)) = some (Value.int j2) := g2
  cases g2
  rw [show (Int32.ofNat j).toNatClampNeg = j from nI_clamp (by omega)] at g5
  exact g5

