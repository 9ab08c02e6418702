section LW
variable {l : Launch} {z : th_Z} {cc : ByteArray} {nL pc kc ks : Nat} {own : String} {rm : Room} {ret : Option FieldType} {tb : List ExceptionTableEntry} {lv : List (Nat × th_V)} {st : List th_V} {mu : th_M} {I : th_I}
theorem th_lst (C : th_C l z cc nL own rm ret tb) {t i j n : Nat} {x v : Int32} (hd1 : decode cc pc = .ok (.i2l, 1)) (hd2 : decode cc (pc + 1) = .ok (.lastore, 1)) (hi : i < mu.1 t) (hk : th_kd t = (3, j)) (hty : ∀ cA, (th_ty cA)[j]? = some (cA j, .long)) (hin : th_ix x n (mu.2.2.2.1 t i))
    (k : th_G l z nL (pc + 2) lv st (mu.1, th_u mu.2.1 t i n v, mu.2.2) kc ks) : th_G l z nL pc lv (.inl v :: .inl x :: .inr (some (t, i)) :: st) mu kc ks := by
  obtain ⟨p, e, R, s, m, args, below, meth, c, Q, D, cA, base, al⟩ := z
  obtain ⟨hx, hb, hml, hown, hts, hlo, hK, -⟩ := C
  intro H locs ls hw hS hl
  obtain ⟨hin, rfl⟩ := hin
  refine lv_i2l hx hb hd1 rfl ?_
  refine W.last hx hb (th_ck_lng (hw.1 t i hi) hk) ((hK.2 j _ (hty cA)).1 _ _) (fun q => by cases q) (by rw [arrV_size]; exact hin) rfl rfl hd2 fun H1 e1 e2 e3 => ?_
  refine k H1 _ ls ?_ (hS.put e2 e3 (hw.2.2.1 t i hi)) hl
  refine th_W_put hw hi rfl ?_ e3 (fun t' i' h => th_u_ne _ _ _ h) (fun _ _ _ => rfl) rfl e2
  unfold th_ck
  rw [hk]
  show H1[al t i]? = _
  rw [e1, arrV_store]
  congr 2
  funext q
  show updV _ _ _ q = Value.long (th_u mu.2.1 t i _ v t i q).toInt64
  rw [th_u_self]
  by_cases hq : q = x.toNatClampNeg
  · subst hq
    simp [updV, upd]
  · simp [updV, upd, hq]
theorem th_lcm (C : th_C l z cc nL own rm ret tb) {t i j n q tgt : Nat} {off : Int} {x b : Int32} (hd1 : decode cc pc = .ok (.laload, 1)) (hd2 : decode cc (pc + 1) = .ok (.iload q, 2)) (hd3 : decode cc (pc + 3) = .ok (.i2l, 1)) (hd4 : decode cc (pc + 4) = .ok (.lcmp, 1)) (hd5 : decode cc (pc + 5) = .ok (.ifCond .eq off, 3)) (ht : ((pc + 5 : Nat) : Int) + off = (tgt : Int)) (hb0 : th_lk lv q = some (.inl b))
    (hi : i < mu.1 t) (hk : th_kd t = (3, j)) (hty : ∀ cA, (th_ty cA)[j]? = some (cA j, .long)) (hin : th_ix x n (mu.2.2.2.1 t i)) (he : mu.2.1 t i n = b)
    (k : th_G l z nL tgt lv st mu kc ks) : th_G l z nL pc lv (.inl x :: .inr (some (t, i)) :: st) mu kc ks := by
  subst he
  obtain ⟨p, e, R, s, m, args, below, meth, c, Q, D, cA, base, al⟩ := z
  obtain ⟨hx, hb, hml, hown, hts, hlo, hK, -⟩ := C
  intro H locs ls hw hS hl
  have hlt := hin.lt
  obtain ⟨hin, rfl⟩ := hin
  refine W.lald (v := .long (mu.2.1 t i x.toNatClampNeg).toInt64) hx hb (th_ck_lng (hw.1 t i hi) hk) ((hK.2 j _ (hty cA)).1 _ _) (fun q => by cases q) (by rw [arrV_size]; exact hin) (by rw [arrV_read _ _ hlt]) rfl rfl hd1 ?_
  refine lv_iload (x := mu.2.1 t i x.toNatClampNeg) hx hb hd2 (th_lk_at hb0 hl) ?_
  refine lv_i2l hx hb hd3 rfl ?_
  refine W.lcmp hx hb hd4 ?_
  refine lv_if_eq hx hb hd5 ht (fun _ => k H locs ls hw hS hl) (fun h => absurd ?_ h)
  simp [lg_cmp]
theorem th_drop_has {lv' : List (Nat × th_V)} {i : Nat} {v : Value} {al : th_A} {ls : Array Slot} (hlv : ∀ q ∈ lv, q.1 ≠ i)
    (h : lv_has ls nL ((i, v) :: (lv.map fun q => (q.1, th_cv al q.2)).filter (fun q => !(q.1 == i) && !(q.1 + 1 == i && q.2.category == 2)))) : lv_has ls nL (lv.map fun q => (q.1, th_cv al q.2)) := by
  refine ⟨h.1, h.2.1, fun q hq => h.2.2 q ?_⟩
  obtain ⟨x, hx, rfl⟩ := List.mem_map.mp hq
  refine List.mem_cons_of_mem _ (List.mem_filter.mpr ⟨List.mem_map.mpr ⟨x, hx, rfl⟩, ?_⟩)
  have hc := th_cv_cat al x.2
  have hn := hlv x hx
  simp only [hc]
  simpa using hn
theorem th_catchX (C : th_C l z cc nL own rm ret tb) {E name : String} {pre suf : List ExceptionTableEntry} {x : ExceptionTableEntry} (hsp : tb = pre ++ x :: suf) (hpass : ∀ q ∈ pre, q.catchType ≠ 0 ∧ ∃ nm, Cond.classLink own q.catchType nm ∈ th_B ∧ (E, nm) ∈ th_NC) (hcov : covers x pc = true) (h0 : x.catchType ≠ 0) (hlk : Cond.classLink own x.catchType name ∈ th_B) (hcast : Cond.castable E name ∈ th_NB) {i len : Nat}
    (hd : (decode cc x.handlerPc = .ok (.astore i, 2) ∧ len = 2) ∨ (∃ j : Fin 4, decode cc x.handlerPc = .ok (.astore_n j, 1) ∧ (j : Nat) = i ∧ len = 1)) (hn : i < nL) (hlv : ∀ q ∈ lv, q.1 ≠ i) (k : th_G l z nL (x.handlerPc + len) lv [] mu kc ks) : th_X l z nL pc lv E mu kc ks := by
  obtain ⟨p, e, R, s, m, args, below, meth, c, Q, D, cA, base, al⟩ := z
  obtain ⟨hx, hb, hml, hown, hts, hlo, hK, hST, hbs, hR, hr, htt, htr, hal⟩ := C
  intro H locs ls rest q ce hw hS hl hce hcv hcl
  refine vx_catch hown pre x suf (by rw [htt]; exact hsp) (fun w hw => ?_) hcov h0 (hts _ hlk) (va_Nw.use rfl (hST.2.1 _ hcast)) hce hcv hcl ?_
  · obtain ⟨g1, nm, g2, g3⟩ := hpass w hw
    exact Or.inr ⟨g1, nm, hts _ g2, hST.2.2.1 _ g3⟩
  · rcases hd with ⟨hd, rfl⟩ | ⟨j, hd, hj, rfl⟩
    · exact lv_astore hx hb hd hl hn rfl (fun ls' hl' => k H locs ls' hw hS (th_drop_has (lv' := lv) hlv hl'))
    · exact lv_astore_n hx hb hd hj hl hn rfl (fun ls' hl' => k H locs ls' hw hS (th_drop_has (lv' := lv) hlv hl'))
def th_FW (l : Launch) (y : MethodName) (cc : ByteArray) (mL : Nat) (ret : Option FieldType) (hh : List (Nat × Nat × Nat × Nat)) (rm : Room) (as : List th_V) (mu : th_M) (Φ : th_P) : Prop :=
  ∀ (D : va_G) (cA : Nat → ClassId) (base : Nat) (al : th_A), th_aok base al → vx_Met l y (.codeWith y cc mL ret hh :: th_B) rm (th_Pc D cA base al as mu) (th_Qc D cA base al Φ) (th_Xc D cA base al Φ) rm.cells rm.slots (fun q => base ≤ q)
theorem th_ofW {y : MethodName} {mL : Nat} {hh : List (Nat × Nat × Nat × Nat)} {as : List th_V} {Φ : th_P} (hl : l.stackTraces = false) (hy : plainName y.cls = true) (hn : as.length ≤ mL)
    (body : ∀ z : th_Z, th_C l z cc mL y.cls rm ret (tableOf hh) → th_Q z Φ rm.cells rm.slots → th_G l z mL 0 (th_al 0 as) [] mu 0 0) : th_FW l y cc mL ret hh rm as mu Φ := by
  intro D cA base al hal
  refine vx_ofWH (cc := cc) (maxL := mL) (ret := ret) (hh := hh) hy rfl ?_
  intro p e s m args below meth c s₁ B hml hv
  obtain ⟨rfl, hbs, hw, hK, hST⟩ := hv
  have hts := atoms_spec (ws := .codeWith y cc mL ret hh :: th_B) B.pre
  have hown : s.vm.findClass y.cls = some m.cls := findClass_of_methodNamed B.named
  have htab := vx_table (x := y) B (hts _ List.mem_cons_self)
  have hg := body (p, e, (headSpec (.codeWith y cc mL ret hh :: th_B) rm).room, s, m, (as.map (th_cv al)).toArray, below, meth, c, _, D, cA, base, al)
    ⟨B.exec, B.bytes, hml, hown, fun w h => hts w (List.mem_cons_of_mem _ h), B.notSynchronized, hK, hST, hbs, rfl, B.returns, htab, hl, hal⟩ rfl
  rw [lg_entry_eq]
  exact hg s.heap [] _ hw va_S.rf (by rw [← th_al_args]; exact lv_entry (as.map (th_cv al)) (by rw [th_al_len]; exact hn))
def th_okW (own : String) (ix : Nat) (y : MethodName) (cy : ByteArray) (mL : Nat) (rety : Option FieldType) (hh : List (Nat × Nat × Nat × Nat)) (n : Nat) : Prop :=
  (Cond.codeWith y cy mL rety hh ∈ th_B ∧ Cond.initialized y.cls ∈ th_B ∧ Cond.methodLink own ix y ∈ th_B ∧ y.cls ≠ "java/lang/invoke/MethodHandle" ∧ y.cls ≠ "java/lang/invoke/VarHandle" ∧ (parseMethodDescriptor y.desc).map (fun d => d.parameters.length) = some n) ∧ Cond.static y ∈ th_B
theorem th_callW {y : MethodName} {cy : ByteArray} {mL : Nat} {rety : Option FieldType} {hh : List (Nat × Nat × Nat × Nat)} {rmy : Room} {as : List th_V} {P : Int32 → th_I → Prop} {ix : Nat} {stk : List th_V} (C : th_C l z cc nL own rm ret tb)
    (hM : th_FW l y cy mL rety hh rmy as mu (th_ri P)) (ok : th_okW own ix y cy mL rety hh as.length) (hrm : th_okR rmy rm mL kc ks = true) (hst : st.length ≤ 8) (hd : decode cc pc = .ok (.invokestatic ix, 3)) (hstk : as.reverse ++ st = stk)
    (k : ∀ (x : Int32) (J : th_I), P x J → th_G l z nL (pc + 3) lv (.inl x :: st) (th_m J) (kc + rmy.cells) (ks + rmy.slots)) : th_G l z nL pc lv stk mu kc ks := by
  obtain ⟨p, e, R, s, m, args, below, meth, c, Q, D, cA, base, al⟩ := z
  intro H locs ls hw hS hl
  obtain ⟨hx, hb, hml, hown, hts, hlo, hK, hST, hbs, hR, hr, htb, htr, hal⟩ := id C
  subst hstk
  subst hR
  obtain ⟨⟨hf1, hf2⟩, hf3, hf4⟩ := th_okR_of hrm
  obtain ⟨⟨h1, h2, h3, h4, h5, h6⟩, ok2⟩ := ok
  refine th_coreM (vx_runSW (n := as.length) (hh := hh) (bytes := cy) (maxL := mL) (ret := rety) (As := as.map (th_cv al)) (rest := st.map (th_cv al)) ⟨hx, hb, hml, hown, hts⟩ (th_toMet (hM D cA base al hal) (th_noX (fun E mu' h => by obtain ⟨x, J, q, -⟩ := h; cases q))) ⟨⟨rfl, rfl, hf1, hf2, fun w hw a' U hW => ?_, List.mem_cons_self⟩, hts _ h1, hts _ h2, ⟨h4, h5⟩, fun sig h => ?_, hts _ h3, hts _ ok2⟩ ⟨th_Pc_blind, fun U hU hW => th_Pc_at (as := as) hU hW hbs hw hK hST hS⟩ rfl (by simp) hl.1 (by simp) (lv_room (by rw [th_cat_sum]; exact hst)) hd ⟨hf3, hf4⟩) hS hl (fun v mu' h => ?_)
  · have hm : w ∈ th_B := by
      rcases List.mem_cons.mp hw with rfl | h
      · exact h1
      · exact h
    exact word_at hW (good_of_word (List.mem_filter.mp hm).2) (hts w hm)
  · rw [h] at h6
    exact (Option.some.inj h6).symm
  · obtain ⟨x, J, q, rfl, h⟩ := h
    cases q
    exact k x J h
def th_SX (z : th_Z) (L : Nat) (xs : Nat → Int32) : Prop := match z with
  | (_p, _e, _R, s, _m, _args, _below, _meth, _c, _Q, _D, _cA, base, al) => va_X (al 90 0) L xs s s.heap ∧ al 90 0 < s.heap.size ∧ ¬ base ≤ al 90 0
theorem th_xlen (C : th_C l z cc nL own rm ret tb) {L : Nat} {xs : Nat → Int32} {v : Int32} (hX : th_SX z L xs) (hd : decode cc pc = .ok (.arraylength, 1)) (hv : Int32.ofNat L = v)
    (k : th_G l z nL (pc + 1) lv (.inl v :: st) mu kc ks) : th_G l z nL pc lv (.inr (some (90, 0)) :: st) mu kc ks := by
  subst hv
  obtain ⟨p, e, R, s, m, args, below, meth, c, Q, D, cA, base, al⟩ := z
  obtain ⟨hx, hb, hml, hown, hts, hlo, hK, hST, hbs, hR, hr, htt, htr, hal⟩ := C
  obtain ⟨h1, h2, h3⟩ := hX
  intro H locs ls hw hS hl
  exact va_slen hx hb h1 h2 h3 hS hd (k H locs ls hw hS hl)
theorem th_xld (C : th_C l z cc nL own rm ret tb) {L n : Nat} {xs : Nat → Int32} {x : Int32} {a : Int} (hX : th_SX z L xs) (hd : decode cc pc = .ok (.iaload, 1)) (hx0 : x.toInt = a) (hn : (n : Int) = a) (h1 : n < L)
    (k : th_G l z nL (pc + 1) lv (.inl (xs n) :: st) mu kc ks) : th_G l z nL pc lv (.inl x :: .inr (some (90, 0)) :: st) mu kc ks := by
  obtain ⟨h2, rfl⟩ := th_ixN hx0 hn h1
  obtain ⟨p, e, R, s, m, args, below, meth, c, Q, D, cA, base, al⟩ := z
  obtain ⟨hx, hb, hml, hown, hts, hlo, hK, hST, hbs, hR, hr, htt, htr, hal⟩ := C
  obtain ⟨q1, q2, q3⟩ := hX
  intro H locs ls hw hS hl
  exact va_sld hx hb q1 q2 q3 hS h2 hd (k H locs ls hw hS hl)
theorem th_newl (C : th_C l z cc nL own rm ret tb) {t i j N n : Nat} {x : Int32} (hd : decode cc pc = .ok (.newarray .long, 2)) (hk : th_kd t = (3, j)) (hty : ∀ cA, (th_ty cA)[j]? = some (cA j, .long)) (harr : Cond.arrayClass .long ∈ th_B) (hx0 : ¬ x < 0) (hxN : x.toNatClampNeg = N) (hN : N ≤ 1000) (hn : mu.2.2.2.2 = n + 1) (hi : mu.1 t = i) (ht : t < 90) (had : th_ad t i = n)
    (hL : mu.2.2.2.1 t i = N) (hz : ∀ k, mu.2.1 t i k = 0) (hc1 : kc + 1 ≤ rm.cells) (hs1 : ks + N ≤ rm.slots)
    (k : th_G l z nL (pc + 2) lv (.inr (some (t, i)) :: st) (th_mk mu t i) (kc + 1) (ks + N)) : th_G l z nL pc lv (.inl x :: st) mu kc ks := by
  obtain ⟨p, e, R, s, m, args, below, meth, c, Q, D, cA, base, al⟩ := z
  obtain ⟨hx, hb, hml, hown, hts, hlo, hK, hST, hbs, hR, hr, htb, htr, hal⟩ := C
  subst hR
  intro H locs ls hw hS hl
  have hal1 : al t i = base + n := by rw [hal t i ht, had]
  have hsz : H.size = base + n := by
    rcases hw.2.2.2 with f | f
    · omega
    · omega
  have hNm := (hK.2 j _ (hty cA)).2
  refine va_newaK (atype := .long) hx hb (hts _ harr) rfl hd rfl hx0 hxN (by show N * 8 ≤ _; omega) hc1 hs1 rfl fun H1 cB e1 z1 o1 hAr hN2 => ?_
  have hcB : cB = cA j := Option.some.inj (hN2.symm.trans hNm)
  subst hcB
  have hw1 : th_W D cA base al (th_mk mu t i) H1 := by
    refine th_W_new hw hn hi hal1 o1 z1 ?_
    unfold th_ck
    rw [hk]
    show H1[al t i]? = _
    rw [hal1, ← hsz, e1, hL]
    congr 2
    funext q
    rw [hz q]
    rfl
  have hS1 : va_S (fun q => base ≤ q) s.heap H1 locs := ⟨Nat.le_trans hS.1 (by omega), fun x h1 h2 => (o1 x (Nat.lt_of_lt_of_le h1 hS.1)).trans (hS.2.1 x h1 h2), hS.2.2⟩
  have := k H1 locs ls hw1 hS1 hl
  simp only [List.map_cons, th_cv, hal1] at this
  rw [hsz]
  exact this
end LW

