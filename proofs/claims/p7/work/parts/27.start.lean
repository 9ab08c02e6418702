set_option maxRecDepth 100000 in
set_option maxHeartbeats 4000000 in
theorem whole_start {p : Program} {e : Env} {s : State} {m : MethodId} {below : List Frame} {meth : Method} {c : Code} (l : Launch) (hl : l.stackTraces = false) {b L : Nat} {xs : Nat → Int32} (hL : L ≤ 2560) (C0 : lw_At p s m meth c b L xs) : W p l e room_1 s m #[Value.ref b] below meth c s.heap [] 0 0 (lw_Z below #[Value.ref b] s) (entryFrame m ([Value.ref b] : List Value).toArray 7) := by
  obtain ⟨hx, hb, hr, hml, hown, hts, hX, hbl, hlocks, hgv⟩ := C0
  have hB : ∀ w ∈ th_B, w.before #[Value.ref b] s = true := fun w h => hts w (List.mem_filter.mp h).1
  have hs := flat_of_before _ hgv
  have hA : ∀ a : Nat, a < s.heap.size → ¬ (fun q : Nat => s.heap.size ≤ q) a := fun a h => Nat.not_le.mpr h
  obtain ⟨c0, i0, h0⟩ := u_known (n := 3) hB cl_16.2.2.1 (hB _ (tb 202 (by decide +kernel) rfl))
  obtain ⟨c1, i1, h1⟩ := u_known (n := 3) hB cl_11.2.2.1 (hB _ (tb 100 (by decide +kernel) rfl))
  obtain ⟨c2, i2, h2⟩ := u_known (n := 4) hB cl_7.2.2.1 (hB _ (tb 76 (by decide +kernel) rfl))
  obtain ⟨c3, i3, h3⟩ := u_known (n := 2) hB cl_14.2.2.1 (hB _ (tb 120 (by decide +kernel) rfl))
  obtain ⟨c4, i4, h4⟩ := u_known (n := 18) hB cl_6.2.2.1 (hB _ (tb 70 (by decide +kernel) rfl))
  obtain ⟨c5, i5, h5⟩ := u_known (n := 12) hB cl_0.2.2.1 (hB _ (tb 61 (by decide +kernel) rfl))
  obtain ⟨c6, i6, h6⟩ := u_known (n := 36) hB cl_20.2.2.1 (hB _ (tb 623 (by decide +kernel) rfl))
  obtain ⟨D, hD⟩ : ∃ D : va_G, ∀ (k : Nat) (q : vw_C), th_Cl[k]? = some q → u_Kn s q.1 q.2.1 q.2.2 (D.1 k) (D.2 k) := by
    refine ⟨(fun k => if k = 0 then c0 else if k = 1 then c1 else if k = 2 then c2 else if k = 3 then c3 else if k = 4 then c4 else if k = 5 then c5 else c6, fun k => if k = 0 then i0 else if k = 1 then i1 else if k = 2 then i2 else if k = 3 then i3 else if k = 4 then i4 else if k = 5 then i5 else i6), fun k q hq => ?_⟩
    match k, hq with
    | 0, hq => cases hq; exact h0
    | 1, hq => cases hq; exact h1
    | 2, hq => cases hq; exact h2
    | 3, hq => cases hq; exact h3
    | 4, hq => cases hq; exact h4
    | 5, hq => cases hq; exact h5
    | 6, hq => cases hq; exact h6
    | k + 7, hq => simp [th_Cl] at hq
  obtain ⟨a0, ka0, p0, f0, g0, e0⟩ := Cond.arrayClass_spec (type := .int) (hts (Cond.arrayClass .int) (List.mem_of_getElem? (i := 98) (by decide +kernel)))
  obtain ⟨a1, ka1, p1, f1, g1, e1⟩ := Cond.arrayClass_spec (type := .boolean) (hts (Cond.arrayClass .boolean) (List.mem_of_getElem? (i := 737) (by decide +kernel)))
  have w2 := hts (Cond.arrayOver (.object "ThreadHall$Strand")) (List.mem_of_getElem? (i := 69) (by decide +kernel))
  obtain ⟨p2, a2, ka2, r2, -, g2, e2, f2⟩ := Cond.arrayOver_spec w2
  have w3 := hts (Cond.arrayOver (.object "ThreadHall$Mutex")) (List.mem_of_getElem? (i := 201) (by decide +kernel))
  obtain ⟨p3, a3, ka3, r3, -, g3, e3, f3⟩ := Cond.arrayOver_spec w3
  have w4 := hts (Cond.arrayOver (.object "ThreadHall$Row")) (List.mem_of_getElem? (i := 223) (by decide +kernel))
  obtain ⟨p4, a4, ka4, r4, -, g4, e4, f4⟩ := Cond.arrayOver_spec w4
  obtain ⟨a5, ka5, p5, f5, g5, e5⟩ := Cond.arrayClass_spec (type := .long) (hts (Cond.arrayClass .long) (List.mem_of_getElem? (i := 884) (by decide +kernel)))
  obtain ⟨cA, hcA⟩ : ∃ cA : Nat → ClassId, ∀ (k : Nat) (q : ClassId × FieldType), (th_ty cA)[k]? = some q → ArrOfT s q.1 q.2 ∧ va_RA s q.1 q.2 := by
    refine ⟨fun k => if k = 0 then a0 else if k = 1 then a1 else if k = 2 then a2 else if k = 3 then a3 else if k = 4 then a4 else a5, fun k q hq => ?_⟩
    match k, hq with
    | 0, hq => cases hq; exact ⟨fun n z => ⟨fun k h => (by cases h), ka0, g0, p0, e0⟩, f0⟩
    | 1, hq => cases hq; exact ⟨fun n z => ⟨fun k h => (by cases h), ka1, g1, p1, e1⟩, f1⟩
    | 2, hq => cases hq; exact ⟨fun n z => ⟨fun k h => (by cases h), ka2, g2, p2, e2⟩, ⟨ka2, p2, g2, e2, r2, f2⟩⟩
    | 3, hq => cases hq; exact ⟨fun n z => ⟨fun k h => (by cases h), ka3, g3, p3, e3⟩, ⟨ka3, p3, g3, e3, r3, f3⟩⟩
    | 4, hq => cases hq; exact ⟨fun n z => ⟨fun k h => (by cases h), ka4, g4, p4, e4⟩, ⟨ka4, p4, g4, e4, r4, f4⟩⟩
    | 5, hq => cases hq; exact ⟨fun n z => ⟨fun k h => (by cases h), ka5, g5, p5, e5⟩, f5⟩
    | k + 6, hq => simp [th_ty] at hq
  obtain ⟨s91, z91, x91, l91⟩ := th_stat (C := "ThreadHall") (n := "FIRST_VALUES") (xs := th_s91.2.2.2) (A := fun q => s.heap.size ≤ q) (by decide) (hts (Cond.laysStatic "ThreadHall" "FIRST_VALUES" "[I") (List.mem_of_getElem? (i := 342) (by decide +kernel))) (hB _ (tb 47 (by decide +kernel) rfl)) (hs _ (by decide +kernel)) (hs _ (by decide +kernel)) (fun j hj => hs _ ((by decide +kernel : ∀ j, j < th_s91.2.2.2.length → Cond.eq (.elem (.static "ThreadHall" "FIRST_VALUES" "[I") (.int (Int32.ofNat j))) (.int (th_s91.2.2.2.getD j 0)) ∈ flatC (Jvm.Cond.and given_1 narrow_1)) j hj)) hA
  obtain ⟨s92, z92, x92, l92⟩ := th_stat (C := "ThreadHall") (n := "SECOND_VALUES") (xs := th_s92.2.2.2) (A := fun q => s.heap.size ≤ q) (by decide) (hts (Cond.laysStatic "ThreadHall" "SECOND_VALUES" "[I") (List.mem_of_getElem? (i := 347) (by decide +kernel))) (hB _ (tb 47 (by decide +kernel) rfl)) (hs _ (by decide +kernel)) (hs _ (by decide +kernel)) (fun j hj => hs _ ((by decide +kernel : ∀ j, j < th_s92.2.2.2.length → Cond.eq (.elem (.static "ThreadHall" "SECOND_VALUES" "[I") (.int (Int32.ofNat j))) (.int (th_s92.2.2.2.getD j 0)) ∈ flatC (Jvm.Cond.and given_1 narrow_1)) j hj)) hA
  let al : th_A := fun t i => if t = 90 then b else if t = 91 then s91 else if t = 92 then s92 else s.heap.size + th_ad t i
  have hal : th_aok s.heap.size al := fun t i ht => by show (if t = 90 then b else if t = 91 then s91 else if t = 92 then s92 else s.heap.size + th_ad t i) = _; rw [if_neg (by omega), if_neg (by omega), if_neg (by omega)]
  have hao : ∀ q ∈ th_AO, va_AO q s := by
    intro q hq
    rcases List.mem_cons.mp hq with rfl | hq
    · exact va_AO.of w2
    · rcases List.mem_cons.mp hq with rfl | hq
      · exact va_AO.of w3
      · rcases List.mem_cons.mp hq with rfl | hq
        · exact va_AO.of w4
        · exact absurd hq List.not_mem_nil
  have hST : th_S s.heap.size al s s.heap := by
    refine ⟨⟨(vx_Zqof (hts (Cond.laysStatic Bundle.tN "UNASSIGNED_STACK" Bundle.steD) (List.mem_of_getElem? (i := 305) (by decide +kernel))) (hB (Cond.initialized Bundle.tN) (tb 54 (by decide +kernel) rfl)) (hs _ (by decide +kernel)) hA), (vx_Zqof (hts (Cond.laysStatic Bundle.tN "SUPPRESSED_SENTINEL" Bundle.listD) (List.mem_of_getElem? (i := 307) (by decide +kernel))) (hB (Cond.initialized Bundle.tN) (tb 54 (by decide +kernel) rfl)) (hs _ (by decide +kernel)) hA), hao⟩, fun w hw => va_Nw.of (th_nk_ot (List.mem_filter.mp hw).2) (hts w (List.mem_filter.mp hw).1), fun q hq => va_Nc.of (hs _ ((by decide +kernel : ∀ q ∈ th_NC, Cond.not (.castable q.1 q.2) ∈ flatC (Jvm.Cond.and given_1 narrow_1)) q hq)), fun q hq => ?_⟩
    rcases List.mem_cons.mp hq with rfl | hq
    · exact ⟨z91, x91, Nat.not_le.mpr l91⟩
    · rcases List.mem_cons.mp hq with rfl | hq
      · exact ⟨z92, x92, Nat.not_le.mpr l92⟩
      · exact absurd hq List.not_mem_nil
  have hbody := law_body l hl (z := (p, e, room_1, s, m, #[Value.ref b], below, meth, c, lw_Z below #[Value.ref b] s, D, cA, s.heap.size, al)) (rt := ret) (tb0 := c.exceptionTable.toList) (L := L) (xs := xs) ⟨hx, hb, hml, hown, hB, hlocks, ⟨hD, hcA⟩, hST, Nat.le_refl _, rfl, hr, rfl, hl, hal⟩ ⟨hX, hbl, Nat.not_le.mpr hbl⟩ hL
    (fun pc lv mu kc ks hd hkc hks H locs ls hw hS hl' => W.widen hkc hks (va_forget (fun q hq => hS.2.2 q hq) (lw_ret hx hb hr hlocks hd)))
  have hlv := lv_entry ([.ref b]) (n := 7) (Nat.le_of_ble_eq_true rfl)
  rw [lg_entry_eq]
  exact hbody s.heap [] _ ⟨fun t i h => absurd h (Nat.not_lt_zero i), fun t i t' i' h => absurd h (Nat.not_lt_zero i), fun t i h => absurd h (Nat.not_lt_zero i), Or.inr rfl⟩ va_S.rf hlv

