def th_cv (al : th_A) (v : th_V) : Value := match v with
  | .inl x => .int x
  | .inr none => .null
  | .inr (some q) => .ref (al q.1 q.2)
theorem th_cv_cat (al : th_A) (v : th_V) : (th_cv al v).category = 1 := by
  rcases v with x | _ | q <;> rfl
def th_u (I : th_I) (t i k : Nat) (v : Int32) : th_I := fun t' i' => if t' = t ∧ i' = i then upd (I t i) k v else I t' i'
def th_ur (I : th_R) (t i k : Nat) (v : Option (Nat × Nat)) : th_R := fun t' i' => if t' = t ∧ i' = i then va_up (I t i) k v else I t' i'
theorem th_u_self (I : th_I) (t i k : Nat) (v : Int32) : th_u I t i k v t i = upd (I t i) k v := by simp [th_u]
theorem th_u_ne (I : th_I) {t i t' i' : Nat} (k : Nat) (v : Int32) (h : ¬ (t' = t ∧ i' = i)) : th_u I t i k v t' i' = I t' i' := by simp [th_u, h]
theorem th_ur_self (I : th_R) (t i k : Nat) (v : Option (Nat × Nat)) : th_ur I t i k v t i = va_up (I t i) k v := by simp [th_ur]
theorem th_ur_ne (I : th_R) {t i t' i' : Nat} (k : Nat) (v : Option (Nat × Nat)) (h : ¬ (t' = t ∧ i' = i)) : th_ur I t i k v t' i' = I t' i' := by simp [th_ur, h]
def th_aok (base : Nat) (al : th_A) : Prop := ∀ t i, t < 90 → al t i = base + th_ad t i
def th_fv (al : th_A) (mu : th_M) (t i k : Nat) : Value := if th_fr t k = true then th_cv al (.inr (mu.2.2.1 t i k)) else .int (mu.2.1 t i k)
def th_ck (D : va_G) (cA : Nat → ClassId) (al : th_A) (mu : th_M) (t i : Nat) (H : Heap) : Prop := match th_kd t with
  | (0, ci) => ∃ r : vw_C, th_Cl[ci]? = some r ∧ t_OB (al t i) (D.1 ci) r.2.2 (D.2 ci) H (fun k => th_fv al mu t i k)
  | (1, j) => H[al t i]? = some (arrV (cA j) (mu.2.2.2.1 t i) (fun k => .int (mu.2.1 t i k)))
  | (2, j) => H[al t i]? = some (arrV (cA j) (mu.2.2.2.1 t i) (fun k => th_cv al (.inr (mu.2.2.1 t i k))))
  | (_, j) => H[al t i]? = some (arrV (cA j) (mu.2.2.2.1 t i) (fun k => .long (mu.2.1 t i k).toInt64))
theorem th_ck_obj {D : va_G} {cA : Nat → ClassId} {al : th_A} {mu : th_M} {t i ci : Nat} {H : Heap} {r : vw_C} (h : th_ck D cA al mu t i H) (hk : th_kd t = (0, ci)) (hc : th_Cl[ci]? = some r) : t_OB (al t i) (D.1 ci) r.2.2 (D.2 ci) H (fun k => th_fv al mu t i k) := by
  unfold th_ck at h
  rw [hk] at h
  obtain ⟨r', h1, h2⟩ := h
  cases Option.some.inj (h1.symm.trans hc)
  exact h2
theorem th_ck_int {D : va_G} {cA : Nat → ClassId} {al : th_A} {mu : th_M} {t i j : Nat} {H : Heap} (h : th_ck D cA al mu t i H) (hk : th_kd t = (1, j)) : H[al t i]? = some (arrV (cA j) (mu.2.2.2.1 t i) (fun k => .int (mu.2.1 t i k))) := by
  unfold th_ck at h
  rw [hk] at h
  exact h
theorem th_ck_ref {D : va_G} {cA : Nat → ClassId} {al : th_A} {mu : th_M} {t i j : Nat} {H : Heap} (h : th_ck D cA al mu t i H) (hk : th_kd t = (2, j)) : H[al t i]? = some (arrV (cA j) (mu.2.2.2.1 t i) (fun k => th_cv al (.inr (mu.2.2.1 t i k)))) := by
  unfold th_ck at h
  rw [hk] at h
  exact h
theorem th_ck_lng {D : va_G} {cA : Nat → ClassId} {al : th_A} {mu : th_M} {t i j : Nat} {H : Heap} (h : th_ck D cA al mu t i H) (hk : th_kd t = (3, j)) : H[al t i]? = some (arrV (cA j) (mu.2.2.2.1 t i) (fun k => .long (mu.2.1 t i k).toInt64)) := by
  unfold th_ck at h
  rw [hk] at h
  exact h
theorem th_ck_kept {D : va_G} {cA : Nat → ClassId} {al : th_A} {mu : th_M} {t i : Nat} {H H1 : Heap} (h : th_ck D cA al mu t i H) (hq : H1[al t i]? = H[al t i]?) : th_ck D cA al mu t i H1 := by
  unfold th_ck at h ⊢
  rcases hk : th_kd t with ⟨a, j⟩
  rw [hk] at h
  rcases a with _ | _ | _ | a
  · obtain ⟨r, h1, h2⟩ := h
    exact ⟨r, h1, h2.kept hq⟩
  · exact hq.trans h
  · exact hq.trans h
  · exact hq.trans h
theorem th_ck_lt {D : va_G} {cA : Nat → ClassId} {al : th_A} {mu : th_M} {t i : Nat} {H : Heap} (h : th_ck D cA al mu t i H) : al t i < H.size := by
  unfold th_ck at h
  rcases hk : th_kd t with ⟨a, j⟩
  rw [hk] at h
  rcases a with _ | _ | _ | a
  · obtain ⟨r, h1, cell, h2, -⟩ := h
    exact (Array.getElem?_eq_some_iff.mp h2).1
  · exact (Array.getElem?_eq_some_iff.mp h).1
  · exact (Array.getElem?_eq_some_iff.mp h).1
  · exact (Array.getElem?_eq_some_iff.mp h).1
theorem th_ck_to {D : va_G} {cA : Nat → ClassId} {al : th_A} {mu mu' : th_M} {t i : Nat} {H : Heap} (h : th_ck D cA al mu t i H) (h1 : mu'.2.1 t i = mu.2.1 t i) (h2 : mu'.2.2.1 t i = mu.2.2.1 t i) (h3 : mu'.2.2.2.1 t i = mu.2.2.2.1 t i) : th_ck D cA al mu' t i H := by
  unfold th_ck th_fv at h ⊢
  rw [h1, h2, h3]
  exact h
def th_W (D : va_G) (cA : Nat → ClassId) (base : Nat) (al : th_A) (mu : th_M) (H : Heap) : Prop :=
  (∀ t i, i < mu.1 t → th_ck D cA al mu t i H) ∧ (∀ t i t' i', i < mu.1 t → i' < mu.1 t' → al t i = al t' i' → t = t' ∧ i = i') ∧ (∀ t i, i < mu.1 t → base ≤ al t i) ∧ (mu.2.2.2.2 = 0 ∨ H.size + 1 = base + mu.2.2.2.2)
theorem th_W_put {D : va_G} {cA : Nat → ClassId} {base : Nat} {al : th_A} {mu mu' : th_M} {H H1 : Heap} {t i : Nat} (h : th_W D cA base al mu H) (hi : i < mu.1 t) (hc : mu'.1 = mu.1) (h1 : th_ck D cA al mu' t i H1) (ho : ∀ q, q ≠ al t i → H1[q]? = H[q]?)
    (e1 : ∀ t' i', ¬ (t' = t ∧ i' = i) → mu'.2.1 t' i' = mu.2.1 t' i') (e2 : ∀ t' i', ¬ (t' = t ∧ i' = i) → mu'.2.2.1 t' i' = mu.2.2.1 t' i') (e3 : mu'.2.2.2 = mu.2.2.2) (hz : H1.size = H.size) : th_W D cA base al mu' H1 := by
  obtain ⟨a, b, d, f⟩ := h
  refine ⟨fun t' i' hi' => ?_, fun t1 i1 t2 i2 q1 q2 => b t1 i1 t2 i2 (by rw [← hc]; exact q1) (by rw [← hc]; exact q2), fun t1 i1 q1 => d t1 i1 (by rw [← hc]; exact q1), by rw [e3, hz]; exact f⟩
  by_cases e : t' = t ∧ i' = i
  · obtain ⟨rfl, rfl⟩ := e
    exact h1
  · rw [hc] at hi'
    exact th_ck_kept (th_ck_to (a t' i' hi') (e1 t' i' e) (e2 t' i' e) (by rw [e3])) (ho _ (fun q => e (b t' i' t i hi' hi q)))
def th_mk (mu : th_M) (t i : Nat) : th_M := (fun t' => if t' = t then i + 1 else mu.1 t', mu.2.1, mu.2.2.1, mu.2.2.2.1, mu.2.2.2.2 + 1)
theorem th_W_new {D : va_G} {cA : Nat → ClassId} {base : Nat} {al : th_A} {mu : th_M} {H H1 : Heap} {t i n : Nat} (h : th_W D cA base al mu H) (hn : mu.2.2.2.2 = n + 1) (hi : mu.1 t = i) (had : al t i = base + n) (ho : ∀ q, q < H.size → H1[q]? = H[q]?) (hz : H1.size = H.size + 1) (h1 : th_ck D cA al mu t i H1) : th_W D cA base al (th_mk mu t i) H1 := by
  obtain ⟨a, b, d, f⟩ := h
  have hs : H.size = base + n := by
    rcases f with f | f
    · omega
    · omega
  have cse : ∀ t' i', i' < (th_mk mu t i).1 t' → (t' = t ∧ i' = i) ∨ i' < mu.1 t' := by
    intro t' i' h'
    unfold th_mk at h'
    dsimp only at h'
    by_cases e : t' = t
    · subst e
      rw [if_pos rfl] at h'
      by_cases e2 : i' = i
      · exact Or.inl ⟨rfl, e2⟩
      · exact Or.inr (by omega)
    · rw [if_neg e] at h'
      exact Or.inr h'
  refine ⟨fun t' i' hi' => ?_, fun t1 i1 t2 i2 q1 q2 e => ?_, fun t1 i1 q1 => ?_, Or.inr (by show H1.size + 1 = base + (mu.2.2.2.2 + 1); omega)⟩
  · rcases cse t' i' hi' with ⟨rfl, rfl⟩ | q
    · exact th_ck_to h1 rfl rfl rfl
    · exact th_ck_to (th_ck_kept (a t' i' q) (ho _ (th_ck_lt (a t' i' q)))) rfl rfl rfl
  · rcases cse t1 i1 q1 with ⟨rfl, rfl⟩ | r1 <;> rcases cse t2 i2 q2 with ⟨rfl, rfl⟩ | r2
    · exact ⟨rfl, rfl⟩
    · have := th_ck_lt (a t2 i2 r2)
      omega
    · have := th_ck_lt (a t1 i1 r1)
      omega
    · exact b t1 i1 t2 i2 r1 r2 e
  · rcases cse t1 i1 q1 with ⟨rfl, rfl⟩ | r1
    · omega
    · exact d t1 i1 r1
theorem th_W_ext {D : va_G} {cA : Nat → ClassId} {base : Nat} {al : th_A} {mu mu' : th_M} {H : Heap} (h : th_W D cA base al mu H) (hc : ∀ t, mu'.1 t ≤ mu.1 t) (e1 : ∀ t i, i < mu'.1 t → mu'.2.1 t i = mu.2.1 t i) (e2 : ∀ t i, i < mu'.1 t → mu'.2.2.1 t i = mu.2.2.1 t i) (e3 : ∀ t i, i < mu'.1 t → mu'.2.2.2.1 t i = mu.2.2.2.1 t i) (hz : mu'.2.2.2.2 = 0 ∨ mu'.2.2.2.2 = mu.2.2.2.2) : th_W D cA base al mu' H := by
  obtain ⟨a, b, d, f⟩ := h
  refine ⟨fun t i q => th_ck_to (a t i (Nat.lt_of_lt_of_le q (hc t))) (e1 t i q) (e2 t i q) (e3 t i q), fun t1 i1 t2 i2 q1 q2 => b t1 i1 t2 i2 (Nat.lt_of_lt_of_le q1 (hc t1)) (Nat.lt_of_lt_of_le q2 (hc t2)), fun t i q => d t i (Nat.lt_of_lt_of_le q (hc t)), ?_⟩
  rcases hz with hz | hz
  · exact Or.inl hz
  · rw [hz]; exact f
theorem th_W_grow {D : va_G} {cA : Nat → ClassId} {base : Nat} {al : th_A} {mu : th_M} {H H1 : Heap} (h : th_W D cA base al mu H) (hz : mu.2.2.2.2 = 0) (ho : ∀ q, q < H.size → H1[q]? = H[q]?) : th_W D cA base al mu H1 := by
  obtain ⟨a, b, d, f⟩ := h
  exact ⟨fun t i q => th_ck_kept (a t i q) (ho _ (th_ck_lt (a t i q))), b, d, Or.inl hz⟩
abbrev th_Z : Type := Program × Env × Room × State × MethodId × Array Value × List Frame × Method × Code × (State → Prop) × va_G × (Nat → ClassId) × Nat × th_A
def th_G (l : Launch) (z : th_Z) (nL pc : Nat) (lv : List (Nat × th_V)) (st : List th_V) (mu : th_M) (kc ks : Nat) : Prop := match z with
  | (p, e, R, s, m, args, below, meth, c, Q, D, cA, base, al) => ∀ (H : Heap) (locs : List Loc) (ls : Array Slot), th_W D cA base al mu H → va_S (fun q => base ≤ q) s.heap H locs → lv_has ls nL (lv.map fun q => (q.1, th_cv al q.2)) →
      W p l e R s m args below meth c H locs kc ks Q (F0 m pc ls (st.map (th_cv al)))
def th_C (l : Launch) (z : th_Z) (cc : ByteArray) (nL : Nat) (own : String) (rm : Room) (ret : Option FieldType) (tb : List ExceptionTableEntry) : Prop := match z with
  | (p, _e, R, s, m, args, _below, meth, c, _Q, D, cA, base, al) => p.tables.exec = Jvm.exec ∧ c.code = cc ∧ c.maxLocals = nL ∧ s.vm.findClass own = some m.cls ∧ (∀ w ∈ th_B, w.before args s = true) ∧ meth.locks = false ∧ va_K D th_Cl (th_ty cA) s ∧ th_S base al s s.heap ∧ base ≤ s.heap.size ∧ R = rm ∧ meth.sig.returnType = ret ∧ c.exceptionTable.toList = tb ∧ l.stackTraces = false ∧ th_aok base al
def th_N (z : th_Z) (nm : String) : Prop := match z with
  | (_p, _e, _R, _s, _m, _args, _below, meth, _c, _Q, _D, _cA, _base, _al) => meth.name = nm
abbrev th_O : Type := Option th_V ⊕ String
abbrev th_P : Type := th_O → th_M → Prop
def th_Qc (D : va_G) (cA : Nat → ClassId) (base : Nat) (al : th_A) (Φ : th_P) : Array Value → State → Outcome → State → Prop := fun _ st o t =>
  (∃ (v : Option th_V) (mu' : th_M), Φ (.inl v) mu' ∧ o = .returned (v.map (th_cv al)) ∧ th_W D cA base al mu' t.heap) ∧ va_F (fun q => base ≤ q) st t
def th_Xc (D : va_G) (cA : Nat → ClassId) (base : Nat) (al : th_A) (Φ : th_P) : String → State → State → Prop := fun E st t =>
  (∃ mu' : th_M, Φ (.inr E) mu' ∧ th_W D cA base al mu' t.heap) ∧ va_F (fun q => base ≤ q) st t
def th_Q (z : th_Z) (Φ : th_P) (mc ms : Nat) : Prop := match z with
  | (_p, _e, _R, s, _m, args, below, _meth, _c, Q, D, cA, base, al) => Q = vx_MQ below (th_Qc D cA base al Φ) (th_Xc D cA base al Φ) args s mc ms (fun q => base ≤ q)
def th_Pc (D : va_G) (cA : Nat → ClassId) (base : Nat) (al : th_A) (as : List th_V) (mu : th_M) : Array Value → State → Prop := fun v U =>
  v = (as.map (th_cv al)).toArray ∧ base ≤ U.heap.size ∧ th_W D cA base al mu U.heap ∧ va_K D th_Cl (th_ty cA) U ∧ th_S base al U U.heap
def th_F (l : Launch) (y : MethodName) (cc : ByteArray) (mL : Nat) (ret : Option FieldType) (rm : Room) (as : List th_V) (mu : th_M) (Φ : th_P) : Prop :=
  ∀ (D : va_G) (cA : Nat → ClassId) (base : Nat) (al : th_A), th_aok base al → vx_Met l y (.code y cc mL ret :: th_B) rm (th_Pc D cA base al as mu) (th_Qc D cA base al Φ) (th_Xc D cA base al Φ) rm.cells rm.slots (fun q => base ≤ q)
def th_X (l : Launch) (z : th_Z) (nL pc : Nat) (lv : List (Nat × th_V)) (E : String) (mu : th_M) (kc ks : Nat) : Prop := match z with
  | (p, e, R, s, m, args, below, meth, c, Q, D, cA, base, al) => ∀ (H : Heap) (locs : List Loc) (ls : Array Slot) (rest : List Value) (q : Addr) (ce : Cell), th_W D cA base al mu H → va_S (fun q => base ≤ q) s.heap H locs → lv_has ls nL (lv.map fun q => (q.1, th_cv al q.2)) →
      H[q]? = some ce → ce.vm = .none → s.vm.findClass E = some ce.cls → vx_W p l e R s m args below meth c H locs kc ks Q (F0 m pc ls rest) q
def th_lk : List (Nat × th_V) → Nat → Option th_V
  | [], _ => none
  | q :: l, i => if q.1 = i then some q.2 else th_lk l i
theorem th_lk_mem : ∀ {lv : List (Nat × th_V)} {i : Nat} {v : th_V}, th_lk lv i = some v → (i, v) ∈ lv
  | [], _, _, h => by cases h
  | q :: l, i, v, h => by
    unfold th_lk at h
    by_cases e : q.1 = i
    · rw [if_pos e] at h
      cases h
      subst e
      exact List.mem_cons_self
    · rw [if_neg e] at h
      exact List.mem_cons_of_mem _ (th_lk_mem h)
theorem th_lk_at {lv : List (Nat × th_V)} {i nL : Nat} {v : th_V} {al : th_A} {ls : Array Slot} (h : th_lk lv i = some v) (hl : lv_has ls nL (lv.map fun q => (q.1, th_cv al q.2))) : ls[i]? = some (.val (th_cv al v)) :=
  hl.2.2 (i, th_cv al v) (List.mem_map.mpr ⟨(i, v), th_lk_mem h, rfl⟩)
def th_in : List (Nat × th_V) → Nat → th_V → List (Nat × th_V)
  | [], i, v => [(i, v)]
  | q :: l, i, v => if i < q.1 then (i, v) :: q :: l else q :: th_in l i v
theorem th_in_mem : ∀ {l : List (Nat × th_V)} {i : Nat} {v : th_V} {q : Nat × th_V}, q ∈ th_in l i v → q = (i, v) ∨ q ∈ l
  | [], _, _, _, h => by
    rcases List.mem_cons.mp h with h | h
    · exact Or.inl h
    · cases h
  | x :: l, i, v, q, h => by
    unfold th_in at h
    split at h
    · exact (List.mem_cons.mp h).imp id id
    · rcases List.mem_cons.mp h with h | h
      · exact Or.inr (by rw [h]; exact List.mem_cons_self)
      · exact (th_in_mem h).imp id (List.mem_cons_of_mem _)
def th_st (lv : List (Nat × th_V)) (i : Nat) (v : th_V) : List (Nat × th_V) := th_in (lv.filter (fun q => !(q.1 == i))) i v
theorem th_st_has {lv lv' : List (Nat × th_V)} {i nL : Nat} {v : th_V} {al : th_A} {ls : Array Slot} (hs : th_st lv i v = lv')
    (h : lv_has ls nL ((i, th_cv al v) :: (lv.map fun q => (q.1, th_cv al q.2)).filter (fun q => !(q.1 == i) && !(q.1 + 1 == i && q.2.category == 2)))) : lv_has ls nL (lv'.map fun q => (q.1, th_cv al q.2)) := by
  subst hs
  refine ⟨h.1, h.2.1, fun q hq => h.2.2 q ?_⟩
  obtain ⟨x, hx, rfl⟩ := List.mem_map.mp hq
  rcases th_in_mem hx with rfl | hx
  · exact List.mem_cons_self
  · obtain ⟨h1, h2⟩ := List.mem_filter.mp hx
    refine List.mem_cons_of_mem _ (List.mem_filter.mpr ⟨List.mem_map.mpr ⟨x, h1, rfl⟩, ?_⟩)
    have hc := th_cv_cat al x.2
    simp only [hc]
    simpa using h2
theorem th_sub_has {lv lv' : List (Nat × th_V)} {nL : Nat} {al : th_A} {ls : Array Slot} (hs : ∀ q ∈ lv', q ∈ lv) (h : lv_has ls nL (lv.map fun q => (q.1, th_cv al q.2))) : lv_has ls nL (lv'.map fun q => (q.1, th_cv al q.2)) := by
  refine ⟨h.1, h.2.1, fun q hq => h.2.2 q ?_⟩
  obtain ⟨x, hx, rfl⟩ := List.mem_map.mp hq
  exact List.mem_map.mpr ⟨x, hs x hx, rfl⟩
def th_al : Nat → List th_V → List (Nat × th_V)
  | _, [] => []
  | i, v :: vs => (i, v) :: th_al (i + 1) vs
theorem th_al_args (al : th_A) : ∀ (i : Nat) (as : List th_V), lv_args i (as.map (th_cv al)) = (th_al i as).map fun q => (q.1, th_cv al q.2)
  | _, [] => rfl
  | i, v :: vs => by
    show (i, th_cv al v) :: lv_args (if (th_cv al v).category = 2 then i + 2 else i + 1) (vs.map (th_cv al)) = _
    rw [th_cv_cat, if_neg (by decide), th_al_args al (i + 1) vs]
    rfl
theorem th_al_len (al : th_A) : ∀ (as : List th_V), (lg_sl (as.map (th_cv al))).length = as.length
  | [] => rfl
  | v :: vs => by
    have h := th_al_len al vs
    unfold lg_sl at h ⊢
    rw [List.map_cons, List.flatMap_cons, th_cv_cat, if_neg (by decide), List.length_append, h]
    simp [Nat.add_comm]
