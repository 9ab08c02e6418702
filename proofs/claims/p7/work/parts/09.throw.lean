section TW
variable {l : Launch} {z : th_Z} {cc : ByteArray} {nL pc kc ks : Nat} {own : String} {rm : Room} {ret : Option FieldType} {tb : List ExceptionTableEntry} {lv : List (Nat × th_V)} {st : List th_V} {mu : th_M}
def th_okT (own : String) (ik ic : Nat) (E : String) (names : List String) : Prop :=
  Bundle.fit E = true ∧ (∀ n ∈ names, Bundle.fit n = true) ∧ Cond.classLink own ik E ∈ th_B ∧ Cond.initialized E ∈ th_B ∧ (∀ w ∈ vx_at0 own ic E names, w ∈ th_B ∨ w ∈ th_NB) ∧ (∀ w ∈ Cond.classLink own ik E :: Cond.initialized E :: vx_at0 own ic E names, vx_ot w = true)
theorem th_throw (C : th_C l z cc nL own rm ret tb) {E : String} {names : List String} {ik ic mc ms : Nat} {Φ : th_P} (hQ : th_Q z Φ mc ms) (ok : th_okT own ik ic E names) (d0 : decode cc pc = .ok (.new ik, 3)) (d3 : decode cc (pc + 3) = .ok (.dup, 1)) (d4 : decode cc (pc + 4) = .ok (.invokespecial ic, 3)) (d7 : decode cc (pc + 7) = .ok (.athrow, 1)) (htb : ∀ x ∈ tb, covers x (pc + 7) = false)
    (hf : names.length + 3 < rm.frames) (hlo : st.length + (13 * (names.length + 1) + 42) ≤ rm.locals) (hcl : kc + 1 ≤ rm.cells) (hsl : ks + 6 ≤ rm.slots) (hc : kc + 1 ≤ mc) (hs : ks + 6 ≤ ms) (hz : mu.2.2.2.2 = 0) (h : Φ (.inr E) mu) : th_G l z nL pc lv st mu kc ks := by
  obtain ⟨p, e, R, s, m, args, below, meth, c, Q, D, cA, base, al⟩ := z
  obtain ⟨hx, hb, hml, hown, hts, hlk, hK, hST, hbs, hR, hr, htt, htr, hal⟩ := C
  subst hR
  intro H locs ls hw hS hl
  cases hQ
  obtain ⟨o1, o2, o3, o4, o5, o6⟩ := ok
  exact vx_throw0 (A := fun q => base ≤ q) hx hb htr hown o1 o2 (hts _ o3) (hts _ o4) (fun w hw => (o5 w hw).elim (hts w) (fun q => va_Nw.use (th_nk_ot (List.mem_filter.mp q).2) (hST.2.1 w q))) o6 hST.1.1 hST.1.2.1 hS (hl.1.trans hml.symm) d0 d3 d4 d7 (by rw [htt]; exact htb) hf (by rw [th_cat_sum]; exact hlo) hcl hsl hlk
    (fun t ha h1 h2 => ⟨⟨_, h, th_W_grow hw hz h2⟩, Nat.le_trans hS.1 h1, fun q a1 a2 => (h2 q (Nat.lt_of_lt_of_le a1 hS.1)).trans (hS.2.1 q a1 a2)⟩) hS.2.2 hc hs
theorem th_gets (C : th_C l z cc nL own rm ret tb) {ix : Nat} {q : String × String × Nat × List Int32} (hd : decode cc pc = .ok (.getstatic ix, 3)) (hq : q ∈ th_SA) (hlk : Cond.fieldLink own ix q.1 q.2.1 "[I" ∈ th_B)
    (k : th_G l z nL (pc + 3) lv (.inr (some (q.2.2.1, 0)) :: st) mu kc ks) : th_G l z nL pc lv st mu kc ks := by
  obtain ⟨p, e, R, s, m, args, below, meth, c, Q, D, cA, base, al⟩ := z
  obtain ⟨hx, hb, hml, hown, hts, hlo, hK, hST, hbs, hR, hr, htt, htr, hal⟩ := C
  intro H locs ls hw hS hl
  exact va_gets hx hb (hST.2.2.2 q hq).1 hS hown (hts _ hlk) (fun x h => h) hd (k H locs ls hw hS hl)
theorem th_slen (C : th_C l z cc nL own rm ret tb) {q : String × String × Nat × List Int32} {v : Int32} (hd : decode cc pc = .ok (.arraylength, 1)) (hq : q ∈ th_SA) (hv : Int32.ofNat q.2.2.2.length = v)
    (k : th_G l z nL (pc + 1) lv (.inl v :: st) mu kc ks) : th_G l z nL pc lv (.inr (some (q.2.2.1, 0)) :: st) mu kc ks := by
  obtain ⟨p, e, R, s, m, args, below, meth, c, Q, D, cA, base, al⟩ := z
  obtain ⟨hx, hb, hml, hown, hts, hlo, hK, hST, hbs, hR, hr, htt, htr, hal⟩ := C
  subst hv
  intro H locs ls hw hS hl
  obtain ⟨-, hX, hA⟩ := hST.2.2.2 q hq
  exact va_slen hx hb hX (Nat.lt_of_lt_of_le (Nat.not_le.mp hA) hbs) hA hS hd (k H locs ls hw hS hl)
theorem th_sld (C : th_C l z cc nL own rm ret tb) {q : String × String × Nat × List Int32} {x : Int32} {a : Int} (hd : decode cc pc = .ok (.iaload, 1)) (hq : q ∈ th_SA) (hx0 : x.toInt = a) (h0 : 0 ≤ a) (h1 : a < (q.2.2.2.length : Int))
    (k : ∀ (n : Nat) (y : Int32), (n : Int) = a → n < q.2.2.2.length → y = q.2.2.2.getD n 0 → th_G l z nL (pc + 1) lv (.inl y :: st) mu kc ks) : th_G l z nL pc lv (.inl x :: .inr (some (q.2.2.1, 0)) :: st) mu kc ks := by
  obtain ⟨n, ⟨h2, h2b⟩, h3, h4⟩ := th_ix_of hx0 h0 h1
  have k := k n _ h3 h4 rfl
  subst h2b
  obtain ⟨p, e, R, s, m, args, below, meth, c, Q, D, cA, base, al⟩ := z
  obtain ⟨hx, hb, hml, hown, hts, hlo, hK, hST, hbs, hR, hr, htt, htr, hal⟩ := C
  intro H locs ls hw hS hl
  obtain ⟨-, hX, hA⟩ := hST.2.2.2 q hq
  exact va_sld hx hb hX (Nat.lt_of_lt_of_le (Nat.not_le.mp hA) hbs) hA hS h2 hd (k H locs ls hw hS hl)
end TW
