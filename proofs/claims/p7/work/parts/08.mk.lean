section MK
variable {l : Launch} {z : th_Z} {cc : ByteArray} {nL pc kc ks : Nat} {own : String} {rm : Room} {ret : Option FieldType} {tb : List ExceptionTableEntry} {lv : List (Nat × th_V)} {st : List th_V} {mu : th_M} {I : th_I}
theorem th_zald (C : th_C l z cc nL own rm ret tb) {t i j n : Nat} {x : Int32} (hd : decode cc pc = .ok (.baload, 1)) (hi : i < mu.1 t) (hk : th_kd t = (1, j)) (hty : ∀ cA, (th_ty cA)[j]? = some (cA j, .boolean)) (hin : th_ix x n (mu.2.2.2.1 t i))
    (k : th_G l z nL (pc + 1) lv (.inl (mu.2.1 t i n) :: st) mu kc ks) : th_G l z nL pc lv (.inl x :: .inr (some (t, i)) :: st) mu kc ks := by
  obtain ⟨p, e, R, s, m, args, below, meth, c, Q, D, cA, base, al⟩ := z
  obtain ⟨hx, hb, hml, hown, hts, hlo, hK, -⟩ := C
  intro H locs ls hw hS hl
  have hlt := hin.lt
  obtain ⟨hin, rfl⟩ := hin
  exact W.zald (v := .int (mu.2.1 t i x.toNatClampNeg)) hx hb (th_ck_int (hw.1 t i hi) hk) ((hK.2 j _ (hty cA)).1 _ _) (fun q => by cases q) (by rw [arrV_size]; exact hin) (by rw [arrV_read _ _ hlt]) rfl rfl hd (k H locs ls hw hS hl)
theorem th_zast (C : th_C l z cc nL own rm ret tb) {t i j n : Nat} {x v : Int32} (hd : decode cc pc = .ok (.bastore, 1)) (hi : i < mu.1 t) (hk : th_kd t = (1, j)) (hty : ∀ cA, (th_ty cA)[j]? = some (cA j, .boolean)) (hin : th_ix x n (mu.2.2.2.1 t i)) (hnar : narrow .boolean (.int v) = .int v)
    (k : th_G l z nL (pc + 1) lv st (mu.1, th_u mu.2.1 t i n v, mu.2.2) kc ks) : th_G l z nL pc lv (.inl v :: .inl x :: .inr (some (t, i)) :: st) mu kc ks := by
  obtain ⟨p, e, R, s, m, args, below, meth, c, Q, D, cA, base, al⟩ := z
  obtain ⟨hx, hb, hml, hown, hts, hlo, hK, -⟩ := C
  intro H locs ls hw hS hl
  obtain ⟨hin, rfl⟩ := hin
  refine W.zast hx hb (th_ck_int (hw.1 t i hi) hk) ((hK.2 j _ (hty cA)).1 _ _) (fun q => by cases q) (by rw [arrV_size]; exact hin) rfl rfl hd fun H1 e1 e2 e3 => ?_
  refine k H1 _ ls ?_ (hS.put e2 e3 (hw.2.2.1 t i hi)) hl
  refine th_W_put hw hi rfl ?_ e3 (fun t' i' h => th_u_ne _ _ _ h) (fun _ _ _ => rfl) rfl e2
  unfold th_ck
  rw [hk]
  show H1[al t i]? = _
  rw [e1, arrV_store]
  congr 2
  funext q
  show updV _ _ _ q = Value.int (th_u mu.2.1 t i _ v t i q)
  rw [th_u_self]
  by_cases hq : q = x.toNatClampNeg
  · subst hq
    simp [updV, upd, hnar]
  · simp [updV, upd, hq]
theorem tq_zaldN (C : th_C l z cc nL own rm ret tb) {t i j n : Nat} {x : Int32} {a : Int} (hd : decode cc pc = .ok (.baload, 1)) (hk : th_kd t = (1, j)) (hty : ∀ cA, (th_ty cA)[j]? = some (cA j, .boolean)) (hi : i < th_cn t) (hx : x.toInt = a) (hn : (n : Int) = a) (h1 : n < th_L0 t i)
    (k : ∀ y : Int32, y = I t i n → th_G l z nL (pc + 1) lv (.inl y :: st) (th_m I) kc ks) : th_G l z nL pc lv (.inl x :: .inr (some (t, i)) :: st) (th_m I) kc ks :=
  th_zald (mu := th_m I) C hd hi hk hty (th_ixN hx hn h1) (k _ rfl)
theorem tq_zaldE (C : th_C l z cc nL own rm ret tb) {t i j n : Nat} {x y : Int32} {a : Int} (hd : decode cc pc = .ok (.baload, 1)) (hk : th_kd t = (1, j)) (hty : ∀ cA, (th_ty cA)[j]? = some (cA j, .boolean)) (hi : i < th_cn t) (hx : x.toInt = a) (hn : (n : Int) = a) (h1 : n < th_L0 t i) (hy : y = I t i n)
    (k : th_G l z nL (pc + 1) lv (.inl y :: st) (th_m I) kc ks) : th_G l z nL pc lv (.inl x :: .inr (some (t, i)) :: st) (th_m I) kc ks :=
  th_zald (mu := th_m I) C hd hi hk hty (th_ixN hx hn h1) (by subst hy; exact k)
theorem tq_zastN (C : th_C l z cc nL own rm ret tb) {t i j n : Nat} {x v : Int32} {a : Int} (hd : decode cc pc = .ok (.bastore, 1)) (hk : th_kd t = (1, j)) (hty : ∀ cA, (th_ty cA)[j]? = some (cA j, .boolean)) (hi : i < th_cn t) (hx : x.toInt = a) (hn : (n : Int) = a) (h1 : n < th_L0 t i) (hnar : narrow .boolean (.int v) = .int v)
    (k : th_G l z nL (pc + 1) lv st (th_m (th_u I t i n v)) kc ks) : th_G l z nL pc lv (.inl v :: .inl x :: .inr (some (t, i)) :: st) (th_m I) kc ks :=
  th_zast (mu := th_m I) C hd hi hk hty (th_ixN hx hn h1) hnar k
theorem th_new (C : th_C l z cc nL own rm ret tb) {t i ci ix N n : Nat} {Cn : String} {T : u_T} {ty : Nat → FieldType} (hd : decode cc pc = .ok (.new ix, 3)) (K : th_cl t ci Cn T N ty) (hcl : Cond.classLink own ix Cn ∈ th_B) (hins : Cond.instantiable Cn N ∈ th_B) (hini : Cond.initialized Cn ∈ th_B) (hn : mu.2.2.2.2 = n + 1) (hi : mu.1 t = i) (ht : t < 90) (had : th_ad t i = n)
    (hz : ∀ k, k < N → (th_fr t k = true ∧ defaultValue (ty k) = .null ∧ mu.2.2.1 t i k = none) ∨ (th_fr t k = false ∧ defaultValue (ty k) = .int 0 ∧ mu.2.1 t i k = 0)) (hc1 : kc + 1 ≤ rm.cells) (hs1 : ks + N ≤ rm.slots)
    (k : th_G l z nL (pc + 3) lv (.inr (some (t, i)) :: st) (th_mk mu t i) (kc + 1) (ks + N)) : th_G l z nL pc lv st mu kc ks := by
  obtain ⟨p, e, R, s, m, args, below, meth, c, Q, D, cA, base, al⟩ := z
  obtain ⟨hx, hb, hml, hown, hts, hlo, hK, hST, hbs, hR, hr, htb, htr, hal⟩ := C
  subst hR
  intro H locs ls hw hS hl
  have hKn := hK.1 ci _ K.2.1
  have hal1 : al t i = base + n := by rw [hal t i ht, had]
  have hsz : H.size = base + n := by
    rcases hw.2.2.2 with f | f
    · omega
    · omega
  refine W.newcK hx hb hown (hts _ hcl) (hts _ hins) (hts _ hini) rfl hd hc1 hs1 hKn.2.1 rfl fun H1 kC hkC e1 z1 o1 => ?_
  have hw1 : th_W D cA base al (th_mk mu t i) H1 := by
    refine th_W_new hw hn hi hal1 o1 z1 ?_
    unfold th_ck
    rw [K.1]
    refine ⟨_, K.2.1, ?_⟩
    rw [hal1, ← hsz]
    refine (u_born ty hts K.2.2.1 hKn hkC e1 K.2.2.2.1).to fun j hj => ?_
    rcases hz j hj with ⟨a1, a2, a3⟩ | ⟨a1, a2, a3⟩
    · simp [th_fv, a1, a2, a3, th_cv]
    · simp [th_fv, a1, a2, a3]
  have hS1 : va_S (fun q => base ≤ q) s.heap H1 locs := ⟨Nat.le_trans hS.1 (by omega), fun x h1 h2 => (o1 x (Nat.lt_of_lt_of_le h1 hS.1)).trans (hS.2.1 x h1 h2), hS.2.2⟩
  have := k H1 locs ls hw1 hS1 hl
  simp only [List.map_cons, th_cv, hal1] at this
  rw [hsz]
  exact this
theorem th_newa (C : th_C l z cc nL own rm ret tb) {t i j N n : Nat} {x : Int32} {at0 : ArrayType} {ty : FieldType} (hd : decode cc pc = .ok (.newarray at0, 2)) (h9 : (at0 = .int ∧ ty = .int) ∨ (at0 = .boolean ∧ ty = .boolean)) (hk : th_kd t = (1, j)) (hty : ∀ cA, (th_ty cA)[j]? = some (cA j, ty)) (harr : Cond.arrayClass ty ∈ th_B) (hx0 : ¬ x < 0) (hxN : x.toNatClampNeg = N) (hN : N ≤ 1000) (hn : mu.2.2.2.2 = n + 1) (hi : mu.1 t = i) (ht : t < 90) (had : th_ad t i = n)
    (hL : mu.2.2.2.1 t i = N) (hz : ∀ k, mu.2.1 t i k = 0) (hc1 : kc + 1 ≤ rm.cells) (hs1 : ks + N ≤ rm.slots)
    (k : th_G l z nL (pc + 2) lv (.inr (some (t, i)) :: st) (th_mk mu t i) (kc + 1) (ks + N)) : th_G l z nL pc lv (.inl x :: st) mu kc ks := by
  obtain ⟨p, e, R, s, m, args, below, meth, c, Q, D, cA, base, al⟩ := z
  obtain ⟨hx, hb, hml, hown, hts, hlo, hK, hST, hbs, hR, hr, htb, htr, hal⟩ := C
  subst hR
  intro H locs ls hw hS hl
  have hal1 : al t i = base + n := by rw [hal t i ht, had]
  have hsz : H.size = base + n := by
    rcases hw.2.2.2 with f | f
    · omega
    · omega
  have hNm := (hK.2 j _ (hty cA)).2
  refine va_newaK (atype := at0) hx hb (by rcases h9 with ⟨rfl, rfl⟩ | ⟨rfl, rfl⟩ <;> exact hts _ harr) rfl hd rfl hx0 hxN (by rcases h9 with ⟨rfl, rfl⟩ | ⟨rfl, rfl⟩ <;> simp only [newarray.typeOf, componentBytes] <;> omega) hc1 hs1 rfl fun H1 cB e1 z1 o1 hAr hN2 => ?_
  have hdf : defaultValue (newarray.typeOf at0) = .int 0 := by rcases h9 with ⟨rfl, rfl⟩ | ⟨rfl, rfl⟩ <;> rfl
  rw [hdf] at e1
  have hNm : s.vm.findClass ("[" ++ (newarray.typeOf at0).toString) = some (cA j) := by rcases h9 with ⟨rfl, rfl⟩ | ⟨rfl, rfl⟩ <;> exact hNm
  have hcB : cB = cA j := Option.some.inj (hN2.symm.trans hNm)
  subst hcB
  have hw1 : th_W D cA base al (th_mk mu t i) H1 := by
    refine th_W_new hw hn hi hal1 o1 z1 ?_
    unfold th_ck
    rw [hk]
    show H1[al t i]? = _
    rw [hal1, ← hsz, e1, hL]
    congr 2
    funext q
    rw [hz q]
  have hS1 : va_S (fun q => base ≤ q) s.heap H1 locs := ⟨Nat.le_trans hS.1 (by omega), fun x h1 h2 => (o1 x (Nat.lt_of_lt_of_le h1 hS.1)).trans (hS.2.1 x h1 h2), hS.2.2⟩
  have := k H1 locs ls hw1 hS1 hl
  simp only [List.map_cons, th_cv, hal1] at this
  rw [hsz]
  exact this
theorem th_anew (C : th_C l z cc nL own rm ret tb) {t i j N n ix : Nat} {x : Int32} {Cn : String} (hd : decode cc pc = .ok (.anewarray ix, 3)) (hk : th_kd t = (2, j)) (hty : ∀ cA, (th_ty cA)[j]? = some (cA j, .object Cn)) (hcl : Cond.classLink own ix Cn ∈ th_B) (hov : Cn ∈ th_AO) (hx0 : ¬ x < 0) (hxN : x.toNatClampNeg = N) (hN : N ≤ 1000) (hn : mu.2.2.2.2 = n + 1) (hi : mu.1 t = i) (ht : t < 90) (had : th_ad t i = n)
    (hL : mu.2.2.2.1 t i = N) (hz : ∀ k, mu.2.2.1 t i k = none) (hc1 : kc + 1 ≤ rm.cells) (hs1 : ks + N ≤ rm.slots)
    (k : th_G l z nL (pc + 3) lv (.inr (some (t, i)) :: st) (th_mk mu t i) (kc + 1) (ks + N)) : th_G l z nL pc lv (.inl x :: st) mu kc ks := by
  obtain ⟨p, e, R, s, m, args, below, meth, c, Q, D, cA, base, al⟩ := z
  obtain ⟨hx, hb, hml, hown, hts, hlo, hK, hST, hbs, hR, hr, htb, htr, hal⟩ := C
  subst hR
  subst hxN
  intro H locs ls hw hS hl
  have hal1 : al t i = base + n := by rw [hal t i ht, had]
  have hsz : H.size = base + n := by
    rcases hw.2.2.2 with f | f
    · omega
    · omega
  obtain ⟨-, kA0, comp0, g1, g2, g3, g4⟩ := hK.2 j _ (hty cA)
  refine W.anew hx hb hown (hts _ hcl) (va_AO.use (hST.1.2.2 _ hov)) rfl hd rfl hx0 (by omega) hc1 hs1 fun cB kA comp f1 f2 f3 f4 => ?_
  have hcB : cB = cA j := Option.some.inj (f1.symm.trans g4)
  subst hcB
  generalize hH1 : H.push ({ cls := cA j, slots := Array.replicate x.toNatClampNeg .null, vm := .none } : Cell) = H1
  have z1 : H1.size = H.size + 1 := by rw [← hH1, Array.size_push]
  have e1 : H1[H.size]? = some (arrV (cA j) x.toNatClampNeg (fun _ => .null)) := by rw [← hH1, Array.getElem?_push_size, ← arrV_new]
  have o1 : ∀ q : Nat, q < H.size → H1[q]? = H[q]? := fun q hq => by rw [← hH1, Array.getElem?_push, if_neg (Nat.ne_of_lt hq)]
  have hw1 : th_W D cA base al (th_mk mu t i) H1 := by
    refine th_W_new hw hn hi hal1 o1 z1 ?_
    unfold th_ck
    rw [hk]
    show H1[al t i]? = _
    rw [hal1, ← hsz, e1, hL]
    congr 2
    funext q
    rw [hz q]
    rfl
  have hS1 : va_S (fun q => base ≤ q) s.heap H1 locs := ⟨Nat.le_trans hS.1 (by omega), fun x h1 h2 => (o1 x (Nat.lt_of_lt_of_le h1 hS.1)).trans (hS.2.1 x h1 h2), hS.2.2⟩
  have := k H1 locs ls hw1 hS1 hl
  simp only [List.map_cons, th_cv, hal1] at this
  rw [hsz]
  exact this
theorem th_objInit (C : th_C l z cc nL own rm ret tb) {q : Nat × Nat} {ix : Nat} (hd : decode cc pc = .ok (.invokespecial ix, 3)) (h1 : Cond.methodLink own ix objectInit ∈ th_B) (h2 : Cond.instanceMethod objectInit ∈ th_B) (h3 : Cond.code objectInit ⟨#[0xb1]⟩ 1 none ∈ th_B) (hf : 1 ≤ rm.frames) (hlo : st.length + 12 ≤ rm.locals)
    (k : th_G l z nL (pc + 3) lv st mu kc ks) : th_G l z nL pc lv (.inr (some q) :: st) mu kc ks := by
  obtain ⟨p, e, R, s, m, args, below, meth, c, Q, D, cA, base, al⟩ := z
  obtain ⟨hx, hb, hml, hown, hts, hlk, hK, hST, hbs, hR, hr, htb, htr, hal⟩ := C
  subst hR
  intro H locs ls hw hS hl
  exact W.objInit hx hb hown (hts _ h1) (hts _ h2) (hts _ h3) rfl (hl.1.trans hml.symm) (a := al q.1 q.2) (rest := st.map (th_cv al)) rfl hd hf (by rw [th_cat_sum]; show 0 + _ + 12 ≤ _; omega) (k H locs ls hw hS hl)
theorem th_putR (C : th_C l z cc nL own rm ret tb) {t i ci ix kf N : Nat} {Cn : String} {T : u_T} {ty : Nat → FieldType} {v : Nat × Nat} {nm : String} (hd : decode cc pc = .ok (.putfield ix, 3)) (K : th_cl t ci Cn T N ty) (F : th_fd own ix T N kf) (hi : i < mu.1 t) (hr : th_fr t kf = true) (hfin : (T kf).2.2.2 = true) (hN : th_N z nm) (hnm : nm = "<init>") (hdecl : (T kf).1 = own) (hn : ∀ a, narrow (ty kf) (.ref a) = .ref a) (hfit : ∀ a, fits (ty kf) (.ref a) = true)
    (k : th_G l z nL (pc + 3) lv st (mu.1, mu.2.1, th_ur mu.2.2.1 t i kf (some v), mu.2.2.2) kc ks) : th_G l z nL pc lv (.inr (some v) :: .inr (some (t, i)) :: st) mu kc ks := by
  obtain ⟨p, e, R, s, m, args, below, meth, c, Q, D, cA, base, al⟩ := z
  obtain ⟨hx, hb, hml, hown, hts, hlo, hK, -⟩ := C
  intro H locs ls hw hS hl
  have hap := va_apart (own := own) hts K.2.2.1 ty K.2.2.2.1 K.2.2.2.2 hK K.2.1
  obtain ⟨cell, q1, q2, q3, q4⟩ := th_ck_obj (hw.1 t i hi) K.1 K.2.1
  obtain ⟨hSl, hfc, kC, hkC, hkind⟩ := hK.1 ci _ K.2.1
  obtain ⟨cf, kff, fi, f, hfi, hsl⟩ := hSl kf F.1
  have hlay := hts _ (K.2.2.1 _ (u_in_lay F.1))
  unfold u_lay at hlay
  rw [if_pos hfin] at hlay
  have hst := (u_facts hfc hkC (u_lays hts K.2.2.1 F.1) hfi).1
  have hcf : m.cls = cf := by
    obtain ⟨_, _, c', _, _, _, -, -, hf', -, -, -, hown2, -⟩ := Cond.laysFinal_spec hlay
    have e1 : c' = cf := by have := hfi.symm.trans hf'; simp at this; exact this.1.symm
    rw [hdecl] at hown2
    rw [← e1]; exact Option.some.inj (hown.symm.trans hown2)
  have h6 := u_fits hfc hkC hkind (Or.inr hlay) hfi (K.2.2.2.1 kf F.1) (hn (al v.1 v.2)) (hfit (al v.1 v.2))
  refine W.putFinK hx hb hown (hts _ F.2) hfi hst hcf (hN.trans hnm) (by rw [q2]; exact h6) q1 q3 (by rw [hsl]; exact k2_hasslot (q4 kf F.1)) rfl rfl hd fun H' e1 e2 e3 => ?_
  rw [hsl] at e1 ⊢
  refine k H' _ ls ?_ (hS.put e2 e3 (hw.2.2.1 t i hi)) hl
  refine th_W_put hw hi rfl ?_ e3 (fun _ _ _ => rfl) (fun t' i' h => th_ur_ne _ _ _ h) rfl e2
  unfold th_ck
  rw [K.1]
  refine ⟨_, K.2.1, t_OB.to (V := updV (fun k => th_fv al mu t i k) kf (.ref (al v.1 v.2))) ⟨_, e1, q2, q3, t_set q4 hap F.1 (.ref (al v.1 v.2))⟩ (fun j _ => ?_)⟩
  by_cases hj : j = kf
  · subst hj
    simp [updV, th_fv, hr, th_ur_self, va_up, th_cv]
  · simp [updV, th_fv, hj, th_ur_self, va_up]
theorem th_putFI (C : th_C l z cc nL own rm ret tb) {t i ci ix kf N : Nat} {Cn : String} {T : u_T} {ty : Nat → FieldType} {v : Int32} {nm : String} (hd : decode cc pc = .ok (.putfield ix, 3)) (K : th_cl t ci Cn T N ty) (F : th_fd own ix T N kf) (hi : i < mu.1 t) (hr : th_fr t kf = false) (hfin : (T kf).2.2.2 = true) (hN : th_N z nm) (hnm : nm = "<init>") (hdecl : (T kf).1 = own) (hty : ty kf = .int)
    (k : th_G l z nL (pc + 3) lv st (mu.1, th_u mu.2.1 t i kf v, mu.2.2) kc ks) : th_G l z nL pc lv (.inl v :: .inr (some (t, i)) :: st) mu kc ks := by
  obtain ⟨p, e, R, s, m, args, below, meth, c, Q, D, cA, base, al⟩ := z
  obtain ⟨hx, hb, hml, hown, hts, hlo, hK, -⟩ := C
  intro H locs ls hw hS hl
  have hap := va_apart (own := own) hts K.2.2.1 ty K.2.2.2.1 K.2.2.2.2 hK K.2.1
  obtain ⟨cell, q1, q2, q3, q4⟩ := th_ck_obj (hw.1 t i hi) K.1 K.2.1
  obtain ⟨hSl, hfc, kC, hkC, hkind⟩ := hK.1 ci _ K.2.1
  obtain ⟨cf, kff, fi, f, hfi, hsl⟩ := hSl kf F.1
  have hlay := hts _ (K.2.2.1 _ (u_in_lay F.1))
  unfold u_lay at hlay
  rw [if_pos hfin] at hlay
  have hst := (u_facts hfc hkC (u_lays hts K.2.2.1 F.1) hfi).1
  have hcf : m.cls = cf := by
    obtain ⟨_, _, c', _, _, _, -, -, hf', -, -, -, hown2, -⟩ := Cond.laysFinal_spec hlay
    have e1 : c' = cf := by have := hfi.symm.trans hf'; simp at this; exact this.1.symm
    rw [hdecl] at hown2
    rw [← e1]; exact Option.some.inj (hown.symm.trans hown2)
  have h6 := u_fits hfc hkC hkind (Or.inr hlay) hfi (K.2.2.2.1 kf F.1) (v := .int v) (by rw [hty]; rfl) (by rw [hty]; rfl)
  refine W.putFinK hx hb hown (hts _ F.2) hfi hst hcf (hN.trans hnm) (by rw [q2]; exact h6) q1 q3 (by rw [hsl]; exact k2_hasslot (q4 kf F.1)) rfl rfl hd fun H' e1 e2 e3 => ?_
  rw [hsl] at e1 ⊢
  refine k H' _ ls ?_ (hS.put e2 e3 (hw.2.2.1 t i hi)) hl
  refine th_W_put hw hi rfl ?_ e3 (fun t' i' h => th_u_ne _ _ _ h) (fun _ _ _ => rfl) rfl e2
  unfold th_ck
  rw [K.1]
  refine ⟨_, K.2.1, t_OB.to (V := updV (fun k => th_fv al mu t i k) kf (.int v)) ⟨_, e1, q2, q3, t_set q4 hap F.1 (.int v)⟩ (fun j _ => ?_)⟩
  by_cases hj : j = kf
  · subst hj
    simp [updV, th_fv, hr, th_u_self, upd]
  · simp [updV, th_fv, hj, th_u_self, upd]
theorem th_aast (C : th_C l z cc nL own rm ret tb) {t i j n ci : Nat} {x : Int32} {r : vw_C} {v : Nat × Nat} (hd : decode cc pc = .ok (.aastore, 1)) (hk : th_kd t = (2, j)) (hty : ∀ cA, (th_ty cA)[j]? = some (cA j, .object r.1)) (hc : th_Cl[ci]? = some r) (hkv : th_kd v.1 = (0, ci)) (hi : i < mu.1 t) (hv : v.2 < mu.1 v.1) (hin : th_ix x n (mu.2.2.2.1 t i))
    (k : th_G l z nL (pc + 1) lv st (mu.1, mu.2.1, th_ur mu.2.2.1 t i n (some v), mu.2.2.2) kc ks) : th_G l z nL pc lv (.inr (some v) :: .inl x :: .inr (some (t, i)) :: st) mu kc ks := by
  obtain ⟨p, e, R, s, m, args, below, meth, c, Q, D, cA, base, al⟩ := z
  obtain ⟨hx, hb, hml, hown, hts, hlo, hK, -⟩ := C
  intro H locs ls hw hS hl
  have hlt := hin.lt
  obtain ⟨hin, rfl⟩ := hin
  have h0 : ¬ x < 0 := fun q => hin (Or.inl q)
  have hcell := th_ck_ref (hw.1 t i hi) hk
  obtain ⟨cellV, g1, g2, g3, -⟩ := th_ck_obj (hw.1 v.1 v.2 hv) hkv hc
  have hcls := (hK.1 ci r hc).2
  obtain ⟨-, kA, comp, k1, k2, k3, -⟩ := hK.2 j _ (hty cA)
  have hcomp : comp = D.1 ci := Option.some.inj (k3.symm.trans hcls.1)
  subst hcomp
  obtain ⟨kC, hkC, -⟩ := hcls.2
  refine W.aast hx hb hcell (fun q h => by cases h) (fun h => by cases h) k1 k2 rfl hkC ⟨h0, by rw [arrV_size]; exact hlt⟩ g1 (fun q h => by rw [g3] at h; cases h) (by rw [g2]; exact hkC) (by rw [g2]; exact va_assign hcls) rfl rfl hd fun H1 e1 z1 oq => ?_
  refine k H1 _ ls ?_ (hS.put z1 oq (hw.2.2.1 t i hi)) hl
  refine th_W_put hw hi rfl ?_ oq (fun _ _ _ => rfl) (fun t' i' h => th_ur_ne _ _ _ h) rfl z1
  unfold th_ck
  rw [hk]
  show H1[al t i]? = _
  rw [e1, arrV_store]
  congr 2
  funext q
  show updV _ _ _ q = th_cv al (.inr (th_ur mu.2.2.1 t i _ (some v) t i q))
  rw [th_ur_self]
  by_cases hq : q = x.toNatClampNeg
  · subst hq
    simp [updV, va_up, th_cv]
  · simp [updV, va_up, hq]
def th_okI (own : String) (ix : Nat) (y : MethodName) (cy : ByteArray) (mL : Nat) (n : Nat) : Prop :=
  th_okB own ix y cy mL none n ∧ y.name = "<init>" ∧ Cond.instanceMethod y ∈ th_B
def th_okN (own : String) (ix : Nat) (host : String) (y : MethodName) (cy : ByteArray) (mL : Nat) (n : Nat) : Prop :=
  (Cond.code y cy mL none ∈ th_B ∧ Cond.initialized y.cls ∈ th_B ∧ Cond.methodLinkNest own ix y host ∈ th_NB ∧ y.cls ≠ "java/lang/invoke/MethodHandle" ∧ y.cls ≠ "java/lang/invoke/VarHandle" ∧ (parseMethodDescriptor y.desc).map (fun d => d.parameters.length) = some n) ∧ y.name = "<init>" ∧ Cond.instanceMethod y ∈ th_B
theorem th_toMet {y : MethodName} {ws : List Cond} {rmy : Room} {Pc : Array Value → State → Prop} {Qc : Array Value → State → Outcome → State → Prop} {XC : String → State → State → Prop} {mc ms : Nat} {free : Addr → Prop} (h : vx_Met l y ws rmy Pc Qc XC mc ms free) (hX : ∀ E st t, ¬ XC E st t) : Met l y ws rmy Pc Qc mc ms free := by
  intro p e ha hc hk s m args below hf happ hP hK
  obtain ⟨n, o, h1, h2, h3, h4⟩ := h p e ha hc hk s m args below hf happ hP hK
  refine ⟨n, o, h1, h2, h3, ?_⟩
  rcases h4 with h4 | ⟨q, -, E, ce, L, hx, -⟩
  · exact h4
  · exact absurd hx (hX _ _ _)
theorem th_noX {D : va_G} {cA : Nat → ClassId} {base : Nat} {al : th_A} {Φ : th_P} (hX : ∀ E mu', ¬ Φ (.inr E) mu') : ∀ E st t, ¬ th_Xc D cA base al Φ E st t := by
  rintro E st t ⟨⟨mu', h, -⟩, -⟩
  exact hX _ _ h
theorem th_coreM {p : Program} {e : Env} {R : Room} {s : State} {m : MethodId} {args : Array Value} {below : List Frame} {meth : Method} {c : Code} {Q : State → Prop} {D : va_G} {cA : Nat → ClassId} {base : Nat} {al : th_A} {H : Heap} {locs : List Loc} {ls : Array Slot} {mc ms : Nat} {stk : List Value} {a : Array Value} {Φ : th_P}
    (hr : va_Run p l e R s m args below meth c H locs kc ks mc ms (F0 m pc ls stk) (st.map (th_cv al)) (th_Qc D cA base al Φ a) (fun q => base ≤ q))
    (hS : va_S (fun q => base ≤ q) s.heap H locs) (hl : lv_has ls nL (lv.map fun q => (q.1, th_cv al q.2)))
    (k : ∀ v mu', Φ (.inl v) mu' → th_G l (p, e, R, s, m, args, below, meth, c, Q, D, cA, base, al) nL (pc + 3) lv (v.toList ++ st) mu' (kc + mc) (ks + ms)) : W p l e R s m args below meth c H locs kc ks Q (F0 m pc ls stk) := by
  intro T hT X
  obtain ⟨v', st₀, t, T', L, h0, X', hL, e1, e2, ⟨⟨v, mu', ho, hv, hw⟩, hF⟩, stp⟩ := hr T hT X
  cases hv
  obtain ⟨k1, k2, k3⟩ := vx_keep h0 e1 hS (fun q _ h => h) (fun q h => h) hL hF
  obtain ⟨t2, a1, b1⟩ := k v mu' ho T'.heap (locs ++ L) ls (by rw [e1]; exact hw) k3 hl T' rfl X'
  refine ⟨t2, stp t2 ?_, b1⟩
  cases v <;> exact a1
theorem th_callI {y : MethodName} {cy : ByteArray} {mL : Nat} {rmy : Room} {as : List th_V} {Φ : th_P} {q : Nat × Nat} {ix : Nat} {stk : List th_V} (C : th_C l z cc nL own rm ret tb)
    (hM : th_F l y cy mL none rmy (.inr (some q) :: as) mu Φ) (hX : ∀ E mu', ¬ Φ (.inr E) mu') (ok : th_okI own ix y cy mL as.length) (hrm : th_okR rmy rm mL kc ks = true) (hst : st.length ≤ 8) (hd : decode cc pc = .ok (.invokespecial ix, 3)) (hstk : as.reverse ++ .inr (some q) :: st = stk)
    (k : ∀ v mu', Φ (.inl v) mu' → th_G l z nL (pc + 3) lv (v.toList ++ st) mu' (kc + rmy.cells) (ks + rmy.slots)) : th_G l z nL pc lv stk mu kc ks := by
  obtain ⟨p, e, R, s, m, args, below, meth, c, Q, D, cA, base, al⟩ := z
  intro H locs ls hw hS hl
  obtain ⟨hx, hb, hml, hown, hts, hlo, hK, hST, hbs, hR, hr, htb, htr, hal⟩ := id C
  subst hstk
  subst hR
  obtain ⟨⟨hf1, hf2⟩, hf3, hf4⟩ := th_okR_of hrm
  obtain ⟨ok1, ok2, ok3⟩ := ok
  exact th_coreM (va_runI (b := al q.1 q.2) (As := as.map (th_cv al)) (rest := st.map (th_cv al)) ⟨hx, hb, hml, hown, hts⟩ (th_toMet (hM D cA base al hal) (th_noX hX)) ⟨th_callB hts ok1 hf1 hf2, ok2, hts _ ok3⟩ ⟨th_Pc_blind, fun U hU hW => th_Pc_at (as := .inr (some q) :: as) hU hW hbs hw hK hST hS⟩ rfl (by simp) hl.1 (by simp [th_cv]) (lv_room (by rw [th_cat_sum]; exact hst)) hd ⟨hf3, hf4⟩) hS hl k
theorem th_callN {y : MethodName} {cy : ByteArray} {mL : Nat} {rmy : Room} {as : List th_V} {Φ : th_P} {q : Nat × Nat} {ix : Nat} {host : String} {stk : List th_V} (C : th_C l z cc nL own rm ret tb)
    (hM : th_F l y cy mL none rmy (.inr (some q) :: as) mu Φ) (hX : ∀ E mu', ¬ Φ (.inr E) mu') (ok : th_okN own ix host y cy mL as.length) (hrm : th_okR rmy rm mL kc ks = true) (hst : st.length ≤ 8) (hd : decode cc pc = .ok (.invokespecial ix, 3)) (hstk : as.reverse ++ .inr (some q) :: st = stk)
    (k : ∀ v mu', Φ (.inl v) mu' → th_G l z nL (pc + 3) lv (v.toList ++ st) mu' (kc + rmy.cells) (ks + rmy.slots)) : th_G l z nL pc lv stk mu kc ks := by
  obtain ⟨p, e, R, s, m, args, below, meth, c, Q, D, cA, base, al⟩ := z
  intro H locs ls hw hS hl
  obtain ⟨hx, hb, hml, hown, hts, hlo, hK, hST, hbs, hR, hr, htb, htr, hal⟩ := id C
  subst hstk
  subst hR
  obtain ⟨⟨hf1, hf2⟩, hf3, hf4⟩ := th_okR_of hrm
  obtain ⟨⟨h1, h2, h3, h4, h5, h6⟩, ok2, ok3⟩ := ok
  refine th_coreM (va_runIN (n := as.length) (host := host) (b := al q.1 q.2) (As := as.map (th_cv al)) (rest := st.map (th_cv al)) ⟨hx, hb, hml, hown, hts⟩ (th_toMet (hM D cA base al hal) (th_noX hX)) ⟨⟨⟨rfl, rfl, hf1, hf2, fun w hw a' U hW => ?_, List.mem_cons_self⟩, hts _ h1, hts _ h2, ⟨h4, h5⟩, fun sig h => ?_, va_Nw.use rfl (th_S_nw hST _ h3)⟩, ok2, hts _ ok3⟩ ⟨th_Pc_blind, fun U hU hW => th_Pc_at (as := .inr (some q) :: as) hU hW hbs hw hK hST hS⟩ rfl (by simp) hl.1 (by simp [th_cv]) (lv_room (by rw [th_cat_sum]; exact hst)) hd ⟨hf3, hf4⟩) hS hl k
  · have hm : w ∈ th_B := by
      rcases List.mem_cons.mp hw with rfl | h
      · exact h1
      · exact h
    exact word_at hW (good_of_word (List.mem_filter.mp hm).2) (hts w hm)
  · rw [h] at h6
    exact (Option.some.inj h6).symm
end MK
