section BaseRows
variable {l : Launch} {z : th_Z} {cc : ByteArray} {nL pc kc ks : Nat} {own : String} {rm : Room} {ret : Option FieldType} {tb : List ExceptionTableEntry} {lv : List (Nat × th_V)} {st : List th_V} {mu : th_M}
theorem th_iconst (C : th_C l z cc nL own rm ret tb) {n : Int} {v : Int32} (hd : decode cc pc = .ok (.iconst n, 1)) (hv : Int32.ofInt n = v) (k : th_G l z nL (pc + 1) lv (.inl v :: st) mu kc ks) : th_G l z nL pc lv st mu kc ks := by
  obtain ⟨p, e, R, s, m, args, below, meth, c, Q, D, cA, base, al⟩ := z
  obtain ⟨hx, hb, -⟩ := C
  intro H locs ls hw hS hl
  exact lv_iconst hx hb hd hv (k H locs ls hw hS hl)
theorem th_bipush (C : th_C l z cc nL own rm ret tb) {n : Int} {v : Int32} (hd : decode cc pc = .ok (.bipush n, 2)) (hv : (Int8.ofInt n).toInt32 = v) (k : th_G l z nL (pc + 2) lv (.inl v :: st) mu kc ks) : th_G l z nL pc lv st mu kc ks := by
  obtain ⟨p, e, R, s, m, args, below, meth, c, Q, D, cA, base, al⟩ := z
  obtain ⟨hx, hb, -⟩ := C
  intro H locs ls hw hS hl
  exact lv_bipush hx hb hd hv (k H locs ls hw hS hl)
theorem th_sipush (C : th_C l z cc nL own rm ret tb) {n : Int} {v : Int32} (hd : decode cc pc = .ok (.sipush n, 3)) (hv : (Int16.ofInt n).toInt32 = v) (k : th_G l z nL (pc + 3) lv (.inl v :: st) mu kc ks) : th_G l z nL pc lv st mu kc ks := by
  obtain ⟨p, e, R, s, m, args, below, meth, c, Q, D, cA, base, al⟩ := z
  obtain ⟨hx, hb, -⟩ := C
  intro H locs ls hw hS hl
  exact lv_sipush hx hb hd hv (k H locs ls hw hS hl)
theorem th_ldc (C : th_C l z cc nL own rm ret tb) {v : Int32} {ix : Nat} (hd : decode cc pc = .ok (.ldc ix, 2)) (hw1 : Jvm.Cond.constant own ix v ∈ th_B) (k : th_G l z nL (pc + 2) lv (.inl v :: st) mu kc ks) : th_G l z nL pc lv st mu kc ks := by
  obtain ⟨p, e, R, s, m, args, below, meth, c, Q, D, cA, base, al⟩ := z
  obtain ⟨hx, hb, hml, hown, hts, -⟩ := C
  intro H locs ls hw hS hl
  exact W.ldc hx hb hown (hts _ hw1) rfl hd (k H locs ls hw hS hl)
theorem th_null (C : th_C l z cc nL own rm ret tb) (hd : decode cc pc = .ok (.aconst_null, 1)) (k : th_G l z nL (pc + 1) lv (.inr none :: st) mu kc ks) : th_G l z nL pc lv st mu kc ks := by
  obtain ⟨p, e, R, s, m, args, below, meth, c, Q, D, cA, base, al⟩ := z
  obtain ⟨hx, hb, -⟩ := C
  intro H locs ls hw hS hl
  exact lv_null hx hb hd (k H locs ls hw hS hl)
theorem th_iadd (C : th_C l z cc nL own rm ret tb) {x y : Int32} (hd : decode cc pc = .ok (.iadd, 1)) (k : th_G l z nL (pc + 1) lv (.inl (x + y) :: st) mu kc ks) : th_G l z nL pc lv (.inl y :: .inl x :: st) mu kc ks := by
  obtain ⟨p, e, R, s, m, args, below, meth, c, Q, D, cA, base, al⟩ := z
  obtain ⟨hx, hb, -⟩ := C
  intro H locs ls hw hS hl
  exact lv_iadd hx hb hd (k H locs ls hw hS hl)
theorem th_isub (C : th_C l z cc nL own rm ret tb) {x y : Int32} (hd : decode cc pc = .ok (.isub, 1)) (k : th_G l z nL (pc + 1) lv (.inl (x - y) :: st) mu kc ks) : th_G l z nL pc lv (.inl y :: .inl x :: st) mu kc ks := by
  obtain ⟨p, e, R, s, m, args, below, meth, c, Q, D, cA, base, al⟩ := z
  obtain ⟨hx, hb, -⟩ := C
  intro H locs ls hw hS hl
  exact lv_isub hx hb hd (k H locs ls hw hS hl)
theorem th_imul (C : th_C l z cc nL own rm ret tb) {x y : Int32} (hd : decode cc pc = .ok (.imul, 1)) (k : th_G l z nL (pc + 1) lv (.inl (x * y) :: st) mu kc ks) : th_G l z nL pc lv (.inl y :: .inl x :: st) mu kc ks := by
  obtain ⟨p, e, R, s, m, args, below, meth, c, Q, D, cA, base, al⟩ := z
  obtain ⟨hx, hb, -⟩ := C
  intro H locs ls hw hS hl
  exact lv_imul hx hb hd (k H locs ls hw hS hl)
theorem th_iand (C : th_C l z cc nL own rm ret tb) {x y : Int32} (hd : decode cc pc = .ok (.iand, 1)) (k : th_G l z nL (pc + 1) lv (.inl (x &&& y) :: st) mu kc ks) : th_G l z nL pc lv (.inl y :: .inl x :: st) mu kc ks := by
  obtain ⟨p, e, R, s, m, args, below, meth, c, Q, D, cA, base, al⟩ := z
  obtain ⟨hx, hb, -⟩ := C
  intro H locs ls hw hS hl
  exact lv_iand hx hb hd (k H locs ls hw hS hl)
theorem th_ior (C : th_C l z cc nL own rm ret tb) {x y : Int32} (hd : decode cc pc = .ok (.ior, 1)) (k : th_G l z nL (pc + 1) lv (.inl (x ||| y) :: st) mu kc ks) : th_G l z nL pc lv (.inl y :: .inl x :: st) mu kc ks := by
  obtain ⟨p, e, R, s, m, args, below, meth, c, Q, D, cA, base, al⟩ := z
  obtain ⟨hx, hb, -⟩ := C
  intro H locs ls hw hS hl
  exact lv_ior hx hb hd (k H locs ls hw hS hl)
theorem th_ixor (C : th_C l z cc nL own rm ret tb) {x y : Int32} (hd : decode cc pc = .ok (.ixor, 1)) (k : th_G l z nL (pc + 1) lv (.inl (x ^^^ y) :: st) mu kc ks) : th_G l z nL pc lv (.inl y :: .inl x :: st) mu kc ks := by
  obtain ⟨p, e, R, s, m, args, below, meth, c, Q, D, cA, base, al⟩ := z
  obtain ⟨hx, hb, -⟩ := C
  intro H locs ls hw hS hl
  exact lv_ixor hx hb hd (k H locs ls hw hS hl)
theorem th_irem (C : th_C l z cc nL own rm ret tb) {x y : Int32} (hd : decode cc pc = .ok (.irem, 1)) (hne : ¬ y = 0) (k : th_G l z nL (pc + 1) lv (.inl (x - x / y * y) :: st) mu kc ks) : th_G l z nL pc lv (.inl y :: .inl x :: st) mu kc ks := by
  obtain ⟨p, e, R, s, m, args, below, meth, c, Q, D, cA, base, al⟩ := z
  obtain ⟨hx, hb, -⟩ := C
  intro H locs ls hw hS hl
  exact lv_irem hx hb hd hne (k H locs ls hw hS hl)
theorem th_idiv (C : th_C l z cc nL own rm ret tb) {x y : Int32} (hd : decode cc pc = .ok (.idiv, 1)) (hne : ¬ y = 0) (k : th_G l z nL (pc + 1) lv (.inl (x / y) :: st) mu kc ks) : th_G l z nL pc lv (.inl y :: .inl x :: st) mu kc ks := by
  obtain ⟨p, e, R, s, m, args, below, meth, c, Q, D, cA, base, al⟩ := z
  obtain ⟨hx, hb, -⟩ := C
  intro H locs ls hw hS hl
  exact lv_idiv hx hb hd hne (k H locs ls hw hS hl)
theorem th_ineg (C : th_C l z cc nL own rm ret tb) {x : Int32} (hd : decode cc pc = .ok (.ineg, 1)) (k : th_G l z nL (pc + 1) lv (.inl (-x) :: st) mu kc ks) : th_G l z nL pc lv (.inl x :: st) mu kc ks := by
  obtain ⟨p, e, R, s, m, args, below, meth, c, Q, D, cA, base, al⟩ := z
  obtain ⟨hx, hb, -⟩ := C
  intro H locs ls hw hS hl
  exact lv_ineg hx hb hd (k H locs ls hw hS hl)
theorem th_dup (C : th_C l z cc nL own rm ret tb) {v : th_V} (hd : decode cc pc = .ok (.dup, 1)) (k : th_G l z nL (pc + 1) lv (v :: v :: st) mu kc ks) : th_G l z nL pc lv (v :: st) mu kc ks := by
  obtain ⟨p, e, R, s, m, args, below, meth, c, Q, D, cA, base, al⟩ := z
  obtain ⟨hx, hb, -⟩ := C
  intro H locs ls hw hS hl
  exact lv_dup hx hb hd (th_cv_cat al v) (k H locs ls hw hS hl)
theorem th_pop (C : th_C l z cc nL own rm ret tb) {v : th_V} (hd : decode cc pc = .ok (.pop, 1)) (k : th_G l z nL (pc + 1) lv st mu kc ks) : th_G l z nL pc lv (v :: st) mu kc ks := by
  obtain ⟨p, e, R, s, m, args, below, meth, c, Q, D, cA, base, al⟩ := z
  obtain ⟨hx, hb, -⟩ := C
  intro H locs ls hw hS hl
  exact lv_pop hx hb hd (th_cv_cat al v) (k H locs ls hw hS hl)
theorem th_dup_x1 (C : th_C l z cc nL own rm ret tb) {v w : th_V} (hd : decode cc pc = .ok (.dup_x1, 1)) (k : th_G l z nL (pc + 1) lv (v :: w :: v :: st) mu kc ks) : th_G l z nL pc lv (v :: w :: st) mu kc ks := by
  obtain ⟨p, e, R, s, m, args, below, meth, c, Q, D, cA, base, al⟩ := z
  obtain ⟨hx, hb, -⟩ := C
  intro H locs ls hw hS hl
  exact lv_dup_x1 hx hb hd (th_cv_cat al v) (th_cv_cat al w) (k H locs ls hw hS hl)
theorem th_dup_x2 (C : th_C l z cc nL own rm ret tb) {v w u : th_V} (hd : decode cc pc = .ok (.dup_x2, 1)) (k : th_G l z nL (pc + 1) lv (v :: w :: u :: v :: st) mu kc ks) : th_G l z nL pc lv (v :: w :: u :: st) mu kc ks := by
  obtain ⟨p, e, R, s, m, args, below, meth, c, Q, D, cA, base, al⟩ := z
  obtain ⟨hx, hb, -⟩ := C
  intro H locs ls hw hS hl
  exact lv_dup_x2 hx hb hd (th_cv_cat al v) (th_cv_cat al w) (th_cv_cat al u) (k H locs ls hw hS hl)
theorem th_dup2 (C : th_C l z cc nL own rm ret tb) {v w : th_V} (hd : decode cc pc = .ok (.dup2, 1)) (k : th_G l z nL (pc + 1) lv (v :: w :: v :: w :: st) mu kc ks) : th_G l z nL pc lv (v :: w :: st) mu kc ks := by
  obtain ⟨p, e, R, s, m, args, below, meth, c, Q, D, cA, base, al⟩ := z
  obtain ⟨hx, hb, -⟩ := C
  intro H locs ls hw hS hl
  exact lv_dup2_11 hx hb hd (th_cv_cat al v) (th_cv_cat al w) (k H locs ls hw hS hl)
theorem th_iload_n (C : th_C l z cc nL own rm ret tb) {j : Fin 4} {i : Nat} {x : Int32} (hd : decode cc pc = .ok (.iload_n j, 1)) (hi : (j : Nat) = i) (h : th_lk lv i = some (.inl x)) (k : th_G l z nL (pc + 1) lv (.inl x :: st) mu kc ks) : th_G l z nL pc lv st mu kc ks := by
  obtain ⟨p, e, R, s, m, args, below, meth, c, Q, D, cA, base, al⟩ := z
  obtain ⟨hx, hb, -⟩ := C
  intro H locs ls hw hS hl
  exact lv_iload_n hx hb hd hi (th_lk_at h hl) (k H locs ls hw hS hl)
theorem th_iload (C : th_C l z cc nL own rm ret tb) {i : Nat} {x : Int32} (hd : decode cc pc = .ok (.iload i, 2)) (h : th_lk lv i = some (.inl x)) (k : th_G l z nL (pc + 2) lv (.inl x :: st) mu kc ks) : th_G l z nL pc lv st mu kc ks := by
  obtain ⟨p, e, R, s, m, args, below, meth, c, Q, D, cA, base, al⟩ := z
  obtain ⟨hx, hb, -⟩ := C
  intro H locs ls hw hS hl
  exact lv_iload hx hb hd (th_lk_at h hl) (k H locs ls hw hS hl)
theorem th_aload_n (C : th_C l z cc nL own rm ret tb) {j : Fin 4} {i : Nat} {x : Nat × Nat} (hd : decode cc pc = .ok (.aload_n j, 1)) (hi : (j : Nat) = i) (h : th_lk lv i = some (.inr (some x))) (k : th_G l z nL (pc + 1) lv (.inr (some x) :: st) mu kc ks) : th_G l z nL pc lv st mu kc ks := by
  obtain ⟨p, e, R, s, m, args, below, meth, c, Q, D, cA, base, al⟩ := z
  obtain ⟨hx, hb, -⟩ := C
  intro H locs ls hw hS hl
  exact lv_aload_n hx hb hd hi (th_lk_at h hl) (k H locs ls hw hS hl)
theorem th_aload (C : th_C l z cc nL own rm ret tb) {i : Nat} {x : Nat × Nat} (hd : decode cc pc = .ok (.aload i, 2)) (h : th_lk lv i = some (.inr (some x))) (k : th_G l z nL (pc + 2) lv (.inr (some x) :: st) mu kc ks) : th_G l z nL pc lv st mu kc ks := by
  obtain ⟨p, e, R, s, m, args, below, meth, c, Q, D, cA, base, al⟩ := z
  obtain ⟨hx, hb, -⟩ := C
  intro H locs ls hw hS hl
  exact lv_aload hx hb hd (th_lk_at h hl) (k H locs ls hw hS hl)
theorem th_istore_n (C : th_C l z cc nL own rm ret tb) {j : Fin 4} {i : Nat} {x : Int32} {lv' : List (Nat × th_V)} (hd : decode cc pc = .ok (.istore_n j, 1)) (hi : (j : Nat) = i) (hn : i < nL) (h : th_st lv i (.inl x) = lv') (k : th_G l z nL (pc + 1) lv' st mu kc ks) : th_G l z nL pc lv (.inl x :: st) mu kc ks := by
  obtain ⟨p, e, R, s, m, args, below, meth, c, Q, D, cA, base, al⟩ := z
  obtain ⟨hx, hb, -⟩ := C
  intro H locs ls hw hS hl
  exact lv_istore_n hx hb hd hi hl hn rfl (fun ls' hl' => k H locs ls' hw hS (th_st_has h hl'))
theorem th_istore (C : th_C l z cc nL own rm ret tb) {i : Nat} {x : Int32} {lv' : List (Nat × th_V)} (hd : decode cc pc = .ok (.istore i, 2)) (hn : i < nL) (h : th_st lv i (.inl x) = lv') (k : th_G l z nL (pc + 2) lv' st mu kc ks) : th_G l z nL pc lv (.inl x :: st) mu kc ks := by
  obtain ⟨p, e, R, s, m, args, below, meth, c, Q, D, cA, base, al⟩ := z
  obtain ⟨hx, hb, -⟩ := C
  intro H locs ls hw hS hl
  exact lv_istore hx hb hd hl hn rfl (fun ls' hl' => k H locs ls' hw hS (th_st_has h hl'))
theorem th_astore_n (C : th_C l z cc nL own rm ret tb) {j : Fin 4} {i : Nat} {x : Nat × Nat} {lv' : List (Nat × th_V)} (hd : decode cc pc = .ok (.astore_n j, 1)) (hi : (j : Nat) = i) (hn : i < nL) (h : th_st lv i (.inr (some x)) = lv') (k : th_G l z nL (pc + 1) lv' st mu kc ks) : th_G l z nL pc lv (.inr (some x) :: st) mu kc ks := by
  obtain ⟨p, e, R, s, m, args, below, meth, c, Q, D, cA, base, al⟩ := z
  obtain ⟨hx, hb, -⟩ := C
  intro H locs ls hw hS hl
  exact lv_astore_n hx hb hd hi hl hn rfl (fun ls' hl' => k H locs ls' hw hS (th_st_has h hl'))
theorem th_astore (C : th_C l z cc nL own rm ret tb) {i : Nat} {x : Nat × Nat} {lv' : List (Nat × th_V)} (hd : decode cc pc = .ok (.astore i, 2)) (hn : i < nL) (h : th_st lv i (.inr (some x)) = lv') (k : th_G l z nL (pc + 2) lv' st mu kc ks) : th_G l z nL pc lv (.inr (some x) :: st) mu kc ks := by
  obtain ⟨p, e, R, s, m, args, below, meth, c, Q, D, cA, base, al⟩ := z
  obtain ⟨hx, hb, -⟩ := C
  intro H locs ls hw hS hl
  exact lv_astore hx hb hd hl hn rfl (fun ls' hl' => k H locs ls' hw hS (th_st_has h hl'))
theorem th_iinc (C : th_C l z cc nL own rm ret tb) {i : Nat} {n : Int} {x v : Int32} {lv' : List (Nat × th_V)} (hd : decode cc pc = .ok (.iinc i n, 3)) (hx0 : th_lk lv i = some (.inl x)) (hv : x + Int32.ofInt n = v) (hn : i < nL) (h : th_st lv i (.inl v) = lv') (k : th_G l z nL (pc + 3) lv' st mu kc ks) : th_G l z nL pc lv st mu kc ks := by
  obtain ⟨p, e, R, s, m, args, below, meth, c, Q, D, cA, base, al⟩ := z
  obtain ⟨hx, hb, -⟩ := C
  intro H locs ls hw hS hl
  obtain ⟨j, hj⟩ := List.getElem?_of_mem (List.mem_map.mpr ⟨(i, (.inl x : th_V)), th_lk_mem hx0, rfl⟩ : (i, th_cv al (.inl x)) ∈ lv.map fun q => (q.1, th_cv al q.2))
  exact lv_iinc hx hb hd hl (k := j) hj hv hn rfl (fun ls' hl' => k H locs ls' hw hS (th_st_has (v := .inl v) h hl'))
theorem th_if_eq (C : th_C l z cc nL own rm ret tb) {x : Int32} {off : Int} {tgt : Nat} (hd : decode cc pc = .ok (.ifCond .eq off, 3)) (ht : (pc : Int) + off = (tgt : Int)) (kt : x = 0 → th_G l z nL tgt lv st mu kc ks) (kf : ¬ x = 0 → th_G l z nL (pc + 3) lv st mu kc ks) : th_G l z nL pc lv (.inl x :: st) mu kc ks := by
  obtain ⟨p, e, R, s, m, args, below, meth, c, Q, D, cA, base, al⟩ := z
  obtain ⟨hx, hb, -⟩ := C
  intro H locs ls hw hS hl
  exact lv_if_eq hx hb hd ht (fun h => kt h H locs ls hw hS hl) (fun h => kf h H locs ls hw hS hl)
theorem th_icmp_eq (C : th_C l z cc nL own rm ret tb) {x y : Int32} {off : Int} {tgt : Nat} (hd : decode cc pc = .ok (.if_icmp .eq off, 3)) (ht : (pc : Int) + off = (tgt : Int)) (kt : x = y → th_G l z nL tgt lv st mu kc ks) (kf : ¬ x = y → th_G l z nL (pc + 3) lv st mu kc ks) : th_G l z nL pc lv (.inl y :: .inl x :: st) mu kc ks := by
  obtain ⟨p, e, R, s, m, args, below, meth, c, Q, D, cA, base, al⟩ := z
  obtain ⟨hx, hb, -⟩ := C
  intro H locs ls hw hS hl
  exact lv_icmp_eq hx hb hd ht (fun h => kt h H locs ls hw hS hl) (fun h => kf h H locs ls hw hS hl)
theorem th_if_ne (C : th_C l z cc nL own rm ret tb) {x : Int32} {off : Int} {tgt : Nat} (hd : decode cc pc = .ok (.ifCond .ne off, 3)) (ht : (pc : Int) + off = (tgt : Int)) (kt : ¬ x = 0 → th_G l z nL tgt lv st mu kc ks) (kf : x = 0 → th_G l z nL (pc + 3) lv st mu kc ks) : th_G l z nL pc lv (.inl x :: st) mu kc ks := by
  obtain ⟨p, e, R, s, m, args, below, meth, c, Q, D, cA, base, al⟩ := z
  obtain ⟨hx, hb, -⟩ := C
  intro H locs ls hw hS hl
  exact lv_if_ne hx hb hd ht (fun h => kt h H locs ls hw hS hl) (fun h => kf h H locs ls hw hS hl)
theorem th_icmp_ne (C : th_C l z cc nL own rm ret tb) {x y : Int32} {off : Int} {tgt : Nat} (hd : decode cc pc = .ok (.if_icmp .ne off, 3)) (ht : (pc : Int) + off = (tgt : Int)) (kt : ¬ x = y → th_G l z nL tgt lv st mu kc ks) (kf : x = y → th_G l z nL (pc + 3) lv st mu kc ks) : th_G l z nL pc lv (.inl y :: .inl x :: st) mu kc ks := by
  obtain ⟨p, e, R, s, m, args, below, meth, c, Q, D, cA, base, al⟩ := z
  obtain ⟨hx, hb, -⟩ := C
  intro H locs ls hw hS hl
  exact lv_icmp_ne hx hb hd ht (fun h => kt h H locs ls hw hS hl) (fun h => kf h H locs ls hw hS hl)
theorem th_if_lt (C : th_C l z cc nL own rm ret tb) {x : Int32} {off : Int} {tgt : Nat} (hd : decode cc pc = .ok (.ifCond .lt off, 3)) (ht : (pc : Int) + off = (tgt : Int)) (kt : x < 0 → th_G l z nL tgt lv st mu kc ks) (kf : ¬ x < 0 → th_G l z nL (pc + 3) lv st mu kc ks) : th_G l z nL pc lv (.inl x :: st) mu kc ks := by
  obtain ⟨p, e, R, s, m, args, below, meth, c, Q, D, cA, base, al⟩ := z
  obtain ⟨hx, hb, -⟩ := C
  intro H locs ls hw hS hl
  exact lv_if_lt hx hb hd ht (fun h => kt h H locs ls hw hS hl) (fun h => kf h H locs ls hw hS hl)
theorem th_icmp_lt (C : th_C l z cc nL own rm ret tb) {x y : Int32} {off : Int} {tgt : Nat} (hd : decode cc pc = .ok (.if_icmp .lt off, 3)) (ht : (pc : Int) + off = (tgt : Int)) (kt : x < y → th_G l z nL tgt lv st mu kc ks) (kf : ¬ x < y → th_G l z nL (pc + 3) lv st mu kc ks) : th_G l z nL pc lv (.inl y :: .inl x :: st) mu kc ks := by
  obtain ⟨p, e, R, s, m, args, below, meth, c, Q, D, cA, base, al⟩ := z
  obtain ⟨hx, hb, -⟩ := C
  intro H locs ls hw hS hl
  exact lv_icmp_lt hx hb hd ht (fun h => kt h H locs ls hw hS hl) (fun h => kf h H locs ls hw hS hl)
theorem th_if_ge (C : th_C l z cc nL own rm ret tb) {x : Int32} {off : Int} {tgt : Nat} (hd : decode cc pc = .ok (.ifCond .ge off, 3)) (ht : (pc : Int) + off = (tgt : Int)) (kt : 0 ≤ x → th_G l z nL tgt lv st mu kc ks) (kf : ¬ 0 ≤ x → th_G l z nL (pc + 3) lv st mu kc ks) : th_G l z nL pc lv (.inl x :: st) mu kc ks := by
  obtain ⟨p, e, R, s, m, args, below, meth, c, Q, D, cA, base, al⟩ := z
  obtain ⟨hx, hb, -⟩ := C
  intro H locs ls hw hS hl
  exact lv_if_ge hx hb hd ht (fun h => kt h H locs ls hw hS hl) (fun h => kf h H locs ls hw hS hl)
theorem th_icmp_ge (C : th_C l z cc nL own rm ret tb) {x y : Int32} {off : Int} {tgt : Nat} (hd : decode cc pc = .ok (.if_icmp .ge off, 3)) (ht : (pc : Int) + off = (tgt : Int)) (kt : y ≤ x → th_G l z nL tgt lv st mu kc ks) (kf : ¬ y ≤ x → th_G l z nL (pc + 3) lv st mu kc ks) : th_G l z nL pc lv (.inl y :: .inl x :: st) mu kc ks := by
  obtain ⟨p, e, R, s, m, args, below, meth, c, Q, D, cA, base, al⟩ := z
  obtain ⟨hx, hb, -⟩ := C
  intro H locs ls hw hS hl
  exact lv_icmp_ge hx hb hd ht (fun h => kt h H locs ls hw hS hl) (fun h => kf h H locs ls hw hS hl)
theorem th_if_gt (C : th_C l z cc nL own rm ret tb) {x : Int32} {off : Int} {tgt : Nat} (hd : decode cc pc = .ok (.ifCond .gt off, 3)) (ht : (pc : Int) + off = (tgt : Int)) (kt : 0 < x → th_G l z nL tgt lv st mu kc ks) (kf : ¬ 0 < x → th_G l z nL (pc + 3) lv st mu kc ks) : th_G l z nL pc lv (.inl x :: st) mu kc ks := by
  obtain ⟨p, e, R, s, m, args, below, meth, c, Q, D, cA, base, al⟩ := z
  obtain ⟨hx, hb, -⟩ := C
  intro H locs ls hw hS hl
  exact lv_if_gt hx hb hd ht (fun h => kt h H locs ls hw hS hl) (fun h => kf h H locs ls hw hS hl)
theorem th_icmp_gt (C : th_C l z cc nL own rm ret tb) {x y : Int32} {off : Int} {tgt : Nat} (hd : decode cc pc = .ok (.if_icmp .gt off, 3)) (ht : (pc : Int) + off = (tgt : Int)) (kt : y < x → th_G l z nL tgt lv st mu kc ks) (kf : ¬ y < x → th_G l z nL (pc + 3) lv st mu kc ks) : th_G l z nL pc lv (.inl y :: .inl x :: st) mu kc ks := by
  obtain ⟨p, e, R, s, m, args, below, meth, c, Q, D, cA, base, al⟩ := z
  obtain ⟨hx, hb, -⟩ := C
  intro H locs ls hw hS hl
  exact lv_icmp_gt hx hb hd ht (fun h => kt h H locs ls hw hS hl) (fun h => kf h H locs ls hw hS hl)
theorem th_if_le (C : th_C l z cc nL own rm ret tb) {x : Int32} {off : Int} {tgt : Nat} (hd : decode cc pc = .ok (.ifCond .le off, 3)) (ht : (pc : Int) + off = (tgt : Int)) (kt : x ≤ 0 → th_G l z nL tgt lv st mu kc ks) (kf : ¬ x ≤ 0 → th_G l z nL (pc + 3) lv st mu kc ks) : th_G l z nL pc lv (.inl x :: st) mu kc ks := by
  obtain ⟨p, e, R, s, m, args, below, meth, c, Q, D, cA, base, al⟩ := z
  obtain ⟨hx, hb, -⟩ := C
  intro H locs ls hw hS hl
  exact lv_if_le hx hb hd ht (fun h => kt h H locs ls hw hS hl) (fun h => kf h H locs ls hw hS hl)
theorem th_icmp_le (C : th_C l z cc nL own rm ret tb) {x y : Int32} {off : Int} {tgt : Nat} (hd : decode cc pc = .ok (.if_icmp .le off, 3)) (ht : (pc : Int) + off = (tgt : Int)) (kt : x ≤ y → th_G l z nL tgt lv st mu kc ks) (kf : ¬ x ≤ y → th_G l z nL (pc + 3) lv st mu kc ks) : th_G l z nL pc lv (.inl y :: .inl x :: st) mu kc ks := by
  obtain ⟨p, e, R, s, m, args, below, meth, c, Q, D, cA, base, al⟩ := z
  obtain ⟨hx, hb, -⟩ := C
  intro H locs ls hw hS hl
  exact lv_icmp_le hx hb hd ht (fun h => kt h H locs ls hw hS hl) (fun h => kf h H locs ls hw hS hl)
theorem th_goto (C : th_C l z cc nL own rm ret tb) {off : Int} {tgt : Nat} (hd : decode cc pc = .ok (.goto off, 3)) (ht : (pc : Int) + off = (tgt : Int)) (k : th_G l z nL tgt lv st mu kc ks) : th_G l z nL pc lv st mu kc ks := by
  obtain ⟨p, e, R, s, m, args, below, meth, c, Q, D, cA, base, al⟩ := z
  obtain ⟨hx, hb, -⟩ := C
  intro H locs ls hw hS hl
  exact lv_goto hx hb hd ht (k H locs ls hw hS hl)
theorem th_tableIn (C : th_C l z cc nL own rm ret tb) {dflt lo hi : Int} {offs : Array Int} {len : Nat} {x : Int32} {off : Int} {tgt : Nat} (hd : decode cc pc = .ok (.tableswitch dflt lo hi offs, len)) (h1 : ¬ x.toInt < lo) (h2 : ¬ hi < x.toInt) (ho : offs[(x.toInt - lo).toNat]? = some off) (ht : (pc : Int) + off = (tgt : Int)) (k : th_G l z nL tgt lv st mu kc ks) : th_G l z nL pc lv (.inl x :: st) mu kc ks := by
  obtain ⟨p, e, R, s, m, args, below, meth, c, Q, D, cA, base, al⟩ := z
  obtain ⟨hx, hb, -⟩ := C
  intro H locs ls hw hS hl
  exact lv_tableIn hx hb hd h1 h2 ho ht (k H locs ls hw hS hl)
theorem th_tableOut (C : th_C l z cc nL own rm ret tb) {dflt lo hi : Int} {offs : Array Int} {len : Nat} {x : Int32} {tgt : Nat} (hd : decode cc pc = .ok (.tableswitch dflt lo hi offs, len)) (h1 : x.toInt < lo ∨ hi < x.toInt) (ht : (pc : Int) + dflt = (tgt : Int)) (k : th_G l z nL tgt lv st mu kc ks) : th_G l z nL pc lv (.inl x :: st) mu kc ks := by
  obtain ⟨p, e, R, s, m, args, below, meth, c, Q, D, cA, base, al⟩ := z
  obtain ⟨hx, hb, -⟩ := C
  intro H locs ls hw hS hl
  exact lv_tableOut hx hb hd h1 ht (k H locs ls hw hS hl)
theorem th_sub (C : th_C l z cc nL own rm ret tb) {lv' : List (Nat × th_V)} (h : ∀ q ∈ lv', q ∈ lv) (k : th_G l z nL pc lv' st mu kc ks) : th_G l z nL pc lv st mu kc ks := by
  obtain ⟨p, e, R, s, m, args, below, meth, c, Q, D, cA, base, al⟩ := z
  obtain - := C
  intro H locs ls hw hS hl
  exact k H locs ls hw hS (th_sub_has h hl)
theorem th_widen (C : th_C l z cc nL own rm ret tb) {kc' ks' : Nat} (h1 : kc ≤ kc') (h2 : ks ≤ ks') (k : th_G l z nL pc lv st mu kc' ks') : th_G l z nL pc lv st mu kc ks := by
  obtain ⟨p, e, R, s, m, args, below, meth, c, Q, D, cA, base, al⟩ := z
  obtain - := C
  intro H locs ls hw hS hl
  exact W.widen h1 h2 (k H locs ls hw hS hl)

def th_ix (x : Int32) (n L : Nat) : Prop := vp_in x L ∧ x.toNatClampNeg = n
theorem th_ix_nI {n L : Nat} (h : n < L) (hL : L < 2 ^ 31) : th_ix (nI n) n L := ⟨vp_in_nI h hL, nI_clamp (Nat.lt_trans h hL)⟩
theorem th_ix.lt {x : Int32} {n L : Nat} (h : th_ix x n L) : n < L := by
  obtain ⟨h1, rfl⟩ := h
  exact Nat.not_le.mp fun q => h1 (Or.inr q)
theorem th_getI (C : th_C l z cc nL own rm ret tb) {t i ci ix kf N : Nat} {Cn : String} {T : u_T} (hd : decode cc pc = .ok (.getfield ix, 3)) (hi : i < mu.1 t) (hk : th_kd t = (0, ci)) (hc : th_Cl[ci]? = some (Cn, T, N)) (hin : ∀ w ∈ u_ws Cn T N, w ∈ th_B) (hkN : kf < N) (hr : th_fr t kf = false) (hlk : Cond.fieldLink own ix (T kf).1 (T kf).2.1 (T kf).2.2.1 ∈ th_B)
    (k : th_G l z nL (pc + 3) lv (.inl (mu.2.1 t i kf) :: st) mu kc ks) : th_G l z nL pc lv (.inr (some (t, i)) :: st) mu kc ks := by
  obtain ⟨p, e, R, s, m, args, below, meth, c, Q, D, cA, base, al⟩ := z
  obtain ⟨hx, hb, hml, hown, hts, hlo, hK, -⟩ := C
  intro H locs ls hw hS hl
  obtain ⟨cell, q1, q2, q3, q4⟩ := th_ck_obj (hw.1 t i hi) hk hc
  obtain ⟨hSl, hfc, kC, hkC, hkind⟩ := hK.1 ci _ hc
  obtain ⟨cf, kff, fi, f, hfi, hsl⟩ := hSl kf hkN
  refine W.getf hx hb hown (hts _ hlk) hfi (u_facts hfc hkC (u_lays hts hin hkN) hfi).1 q1 (by rw [q3]; exact fun h => by cases h) (v := .int (mu.2.1 t i kf)) ?_ rfl rfl hd (k H locs ls hw hS hl)
  rw [hsl, q4 kf hkN]
  simp [th_fv, hr]
theorem th_getR (C : th_C l z cc nL own rm ret tb) {t i ci ix kf N : Nat} {Cn : String} {T : u_T} {v : Option (Nat × Nat)} (hd : decode cc pc = .ok (.getfield ix, 3)) (hi : i < mu.1 t) (hk : th_kd t = (0, ci)) (hc : th_Cl[ci]? = some (Cn, T, N)) (hin : ∀ w ∈ u_ws Cn T N, w ∈ th_B) (hkN : kf < N) (hr : th_fr t kf = true) (hlk : Cond.fieldLink own ix (T kf).1 (T kf).2.1 (T kf).2.2.1 ∈ th_B) (hv : mu.2.2.1 t i kf = v)
    (k : th_G l z nL (pc + 3) lv (.inr v :: st) mu kc ks) : th_G l z nL pc lv (.inr (some (t, i)) :: st) mu kc ks := by
  subst hv
  obtain ⟨p, e, R, s, m, args, below, meth, c, Q, D, cA, base, al⟩ := z
  obtain ⟨hx, hb, hml, hown, hts, hlo, hK, -⟩ := C
  intro H locs ls hw hS hl
  obtain ⟨cell, q1, q2, q3, q4⟩ := th_ck_obj (hw.1 t i hi) hk hc
  obtain ⟨hSl, hfc, kC, hkC, hkind⟩ := hK.1 ci _ hc
  obtain ⟨cf, kff, fi, f, hfi, hsl⟩ := hSl kf hkN
  refine W.getf hx hb hown (hts _ hlk) hfi (u_facts hfc hkC (u_lays hts hin hkN) hfi).1 q1 (by rw [q3]; exact fun h => by cases h) (v := th_cv al (.inr (mu.2.2.1 t i kf))) ?_ rfl rfl hd (k H locs ls hw hS hl)
  rw [hsl, q4 kf hkN]
  simp [th_fv, hr]
theorem th_putI (C : th_C l z cc nL own rm ret tb) {t i ci ix kf N : Nat} {Cn : String} {T : u_T} {v : Int32} (hd : decode cc pc = .ok (.putfield ix, 3)) (hi : i < mu.1 t) (hk : th_kd t = (0, ci)) (hc : th_Cl[ci]? = some (Cn, T, N)) (hin : ∀ w ∈ u_ws Cn T N, w ∈ th_B) (tyf : Nat → FieldType) (hty : ∀ k, k < N → parseFieldDescriptor (T k).2.2.1 = some (tyf k)) (hnm : ∀ a, a < N → ∀ b, b < N → a ≠ b → (T a).2.1 ≠ (T b).2.1) (hkN : kf < N) (hr : th_fr t kf = false) (hlk : Cond.fieldLink own ix (T kf).1 (T kf).2.1 (T kf).2.2.1 ∈ th_B)
    (hfin : (T kf).2.2.2 = false) (hn : narrow (tyf kf) (.int v) = .int v) (hfit : fits (tyf kf) (.int v) = true) (k : th_G l z nL (pc + 3) lv st (mu.1, th_u mu.2.1 t i kf v, mu.2.2) kc ks) : th_G l z nL pc lv (.inl v :: .inr (some (t, i)) :: st) mu kc ks := by
  obtain ⟨p, e, R, s, m, args, below, meth, c, Q, D, cA, base, al⟩ := z
  obtain ⟨hx, hb, hml, hown, hts, hlo, hK, -⟩ := C
  intro H locs ls hw hS hl
  have hap := va_apart (own := own) hts hin tyf hty hnm hK hc
  obtain ⟨cell, q1, q2, q3, q4⟩ := th_ck_obj (hw.1 t i hi) hk hc
  obtain ⟨hSl, hfc, kC, hkC, hkind⟩ := hK.1 ci _ hc
  obtain ⟨cf, kff, fi, f, hfi, hsl⟩ := hSl kf hkN
  have hlay := hts _ (hin _ (u_in_lay hkN))
  unfold u_lay at hlay
  rw [if_neg (by rw [hfin]; decide)] at hlay
  have hst := (u_facts hfc hkC (u_lays hts hin hkN) hfi).1
  have h6 := u_store hfc hkC hkind hlay hfi (hty kf hkN) hn hfit
  refine W.putK hx hb (f := f) ⟨hown, hts _ hlk, ⟨_, _, _, hfi⟩, hst⟩ (by rw [q2]; exact h6) q1 q3 (by rw [hsl]; exact k2_hasslot (q4 kf hkN)) rfl rfl hd fun H' e1 e2 e3 => ?_
  rw [hsl] at e1 ⊢
  refine k H' _ ls ?_ (hS.put e2 e3 (hw.2.2.1 t i hi)) hl
  refine th_W_put hw hi rfl ?_ e3 (fun t' i' h => th_u_ne _ _ _ h) (fun _ _ _ => rfl) rfl e2
  unfold th_ck
  rw [hk]
  refine ⟨_, hc, t_OB.to (V := updV (fun k => th_fv al mu t i k) kf (.int v)) ⟨_, e1, q2, q3, t_set q4 hap hkN (.int v)⟩ (fun j _ => ?_)⟩
  by_cases hj : j = kf
  · subst hj
    simp [updV, th_fv, hr, th_u_self, upd]
  · simp [updV, th_fv, hj, th_u_self, upd]
theorem th_iald (C : th_C l z cc nL own rm ret tb) {t i j n : Nat} {x : Int32} (hd : decode cc pc = .ok (.iaload, 1)) (hi : i < mu.1 t) (hk : th_kd t = (1, j)) (hty : ∀ cA, (th_ty cA)[j]? = some (cA j, .int)) (hin : th_ix x n (mu.2.2.2.1 t i))
    (k : th_G l z nL (pc + 1) lv (.inl (mu.2.1 t i n) :: st) mu kc ks) : th_G l z nL pc lv (.inl x :: .inr (some (t, i)) :: st) mu kc ks := by
  obtain ⟨p, e, R, s, m, args, below, meth, c, Q, D, cA, base, al⟩ := z
  obtain ⟨hx, hb, hml, hown, hts, hlo, hK, -⟩ := C
  intro H locs ls hw hS hl
  have hlt := hin.lt
  obtain ⟨hin, rfl⟩ := hin
  exact W.iald (v := .int (mu.2.1 t i x.toNatClampNeg)) hx hb (th_ck_int (hw.1 t i hi) hk) ((hK.2 j _ (hty cA)).1 _ _) (fun q => by cases q) (by rw [arrV_size]; exact hin) (by rw [arrV_read _ _ hlt]) rfl rfl hd (k H locs ls hw hS hl)
theorem th_iast (C : th_C l z cc nL own rm ret tb) {t i j n : Nat} {x v : Int32} (hd : decode cc pc = .ok (.iastore, 1)) (hi : i < mu.1 t) (hk : th_kd t = (1, j)) (hty : ∀ cA, (th_ty cA)[j]? = some (cA j, .int)) (hin : th_ix x n (mu.2.2.2.1 t i))
    (k : th_G l z nL (pc + 1) lv st (mu.1, th_u mu.2.1 t i n v, mu.2.2) kc ks) : th_G l z nL pc lv (.inl v :: .inl x :: .inr (some (t, i)) :: st) mu kc ks := by
  obtain ⟨p, e, R, s, m, args, below, meth, c, Q, D, cA, base, al⟩ := z
  obtain ⟨hx, hb, hml, hown, hts, hlo, hK, -⟩ := C
  intro H locs ls hw hS hl
  obtain ⟨hin, rfl⟩ := hin
  refine W.iast hx hb (th_ck_int (hw.1 t i hi) hk) ((hK.2 j _ (hty cA)).1 _ _) (fun q => by cases q) (by rw [arrV_size]; exact hin) rfl rfl hd fun H1 e1 e2 e3 => ?_
  refine k H1 _ ls ?_ (hS.put e2 e3 (hw.2.2.1 t i hi)) hl
  refine th_W_put hw hi rfl ?_ e3 (fun t' i' h => th_u_ne _ _ _ h) (fun _ _ _ => rfl) rfl e2
  unfold th_ck
  rw [hk]
  show H1[al t i]? = _
  rw [e1, arrV_store]
  congr 2
  funext q
  show updV _ _ _ q = Value.int (th_u mu.2.1 t i _ v t i q)
  rw [th_u_self]
  by_cases hq : q = x.toNatClampNeg
  · subst hq
    simp [updV, upd]
  · simp [updV, upd, hq]
theorem th_aald (C : th_C l z cc nL own rm ret tb) {t i j n : Nat} {x : Int32} {Cn : String} {v : Option (Nat × Nat)} (hd : decode cc pc = .ok (.aaload, 1)) (hi : i < mu.1 t) (hk : th_kd t = (2, j)) (hty : ∀ cA, (th_ty cA)[j]? = some (cA j, .object Cn)) (hin : th_ix x n (mu.2.2.2.1 t i)) (hv : mu.2.2.1 t i n = v)
    (k : th_G l z nL (pc + 1) lv (.inr v :: st) mu kc ks) : th_G l z nL pc lv (.inl x :: .inr (some (t, i)) :: st) mu kc ks := by
  subst hv
  obtain ⟨p, e, R, s, m, args, below, meth, c, Q, D, cA, base, al⟩ := z
  obtain ⟨hx, hb, hml, hown, hts, hlo, hK, -⟩ := C
  intro H locs ls hw hS hl
  have hlt := hin.lt
  obtain ⟨hin, rfl⟩ := hin
  exact W.aald (v := th_cv al (.inr (mu.2.2.1 t i x.toNatClampNeg))) (ty := .object Cn) hx hb (th_ck_ref (hw.1 t i hi) hk) ((hK.2 j _ (hty cA)).1 _ _) rfl (fun q => by cases q) (by rw [arrV_size]; exact hin) (by rw [arrV_read _ _ hlt]) rfl rfl hd (k H locs ls hw hS hl)
theorem th_alen (C : th_C l z cc nL own rm ret tb) {t i j : Nat} (hd : decode cc pc = .ok (.arraylength, 1)) (hi : i < mu.1 t) (hk : th_kd t = (1, j)) (hty : ∀ cA, (th_ty cA)[j]? = some (cA j, .int))
    (k : th_G l z nL (pc + 1) lv (.inl (nI (mu.2.2.2.1 t i)) :: st) mu kc ks) : th_G l z nL pc lv (.inr (some (t, i)) :: st) mu kc ks := by
  obtain ⟨p, e, R, s, m, args, below, meth, c, Q, D, cA, base, al⟩ := z
  obtain ⟨hx, hb, hml, hown, hts, hlo, hK, -⟩ := C
  intro H locs ls hw hS hl
  exact W.alen hx hb (th_ck_int (hw.1 t i hi) hk) ((hK.2 j _ (hty cA)).1 _ _) (by rw [arrV_size]; rfl) rfl rfl hd (k H locs ls hw hS hl)
theorem th_iret (C : th_C l z cc nL own rm (some .int) tb) {v : Int32} {mc ms : Nat} {Φ : th_P} (hQ : th_Q z Φ mc ms) (hd : decode cc pc = .ok (.ireturn, 1)) (hc : kc ≤ mc) (hs : ks ≤ ms) (h : Φ (.inl (some (.inl v))) mu) : th_G l z nL pc lv [.inl v] mu kc ks := by
  obtain ⟨p, e, R, s, m, args, below, meth, c, Q, D, cA, base, al⟩ := z
  obtain ⟨hx, hb, hml, hown, hts, hlo, hK, hST, hbs, hR, hr, -⟩ := C
  intro H locs ls hw hS hl
  cases hQ
  refine W.widen hc hs (vx_ret ?_)
  exact W.iret hx hb hr (fun t ht hW => ⟨⟨_, _, h, rfl, by rw [ht]; exact hw⟩, hS.F ht⟩) hS.2.2 hd hlo
theorem th_zret (C : th_C l z cc nL own rm (some .boolean) tb) {v : Int32} {mc ms : Nat} {Φ : th_P} (hQ : th_Q z Φ mc ms) (hd : decode cc pc = .ok (.ireturn, 1)) (hn : narrow .boolean (.int v) = .int v) (hc : kc ≤ mc) (hs : ks ≤ ms) (h : Φ (.inl (some (.inl v))) mu) : th_G l z nL pc lv [.inl v] mu kc ks := by
  obtain ⟨p, e, R, s, m, args, below, meth, c, Q, D, cA, base, al⟩ := z
  obtain ⟨hx, hb, hml, hown, hts, hlo, hK, hST, hbs, hR, hr, -⟩ := C
  intro H locs ls hw hS hl
  cases hQ
  refine W.widen hc hs (vx_ret ?_)
  exact W.zret hx hb hr hn (fun t ht hW => ⟨⟨_, _, h, rfl, by rw [ht]; exact hw⟩, hS.F ht⟩) hS.2.2 hd hlo
theorem th_vret (C : th_C l z cc nL own rm none tb) {mc ms : Nat} {Φ : th_P} (hQ : th_Q z Φ mc ms) (hd : decode cc pc = .ok (.return_, 1)) (hc : kc ≤ mc) (hs : ks ≤ ms) (h : Φ (.inl none) mu) : th_G l z nL pc lv [] mu kc ks := by
  obtain ⟨p, e, R, s, m, args, below, meth, c, Q, D, cA, base, al⟩ := z
  obtain ⟨hx, hb, hml, hown, hts, hlo, hK, hST, hbs, hR, hr, -⟩ := C
  intro H locs ls hw hS hl
  cases hQ
  refine W.widen hc hs (vx_ret ?_)
  exact W.vret hx hb hr (fun t ht hW => ⟨⟨_, _, h, rfl, by rw [ht]; exact hw⟩, hS.F ht⟩) hS.2.2 hd hlo
theorem th_outX (C : th_C l z cc nL own rm ret tb) {E : String} {mc ms : Nat} {Φ : th_P} (hQ : th_Q z Φ mc ms) (htb : ∀ x ∈ tb, covers x pc = false) (hc : kc ≤ mc) (hs : ks ≤ ms) (h : Φ (.inr E) mu) : th_X l z nL pc lv E mu kc ks := by
  obtain ⟨p, e, R, s, m, args, below, meth, c, Q, D, cA, base, al⟩ := z
  obtain ⟨hx, hb, hml, hown, hts, hlo, hK, hST, hbs, hR, hr, htt, -⟩ := C
  intro H locs ls rest q ce hw hS hl hce hcv hcl
  cases hQ
  exact vx_out (by rw [htt]; exact htb) hlo hce hcv hcl (fun t ht ha => ⟨⟨_, h, by rw [ht]; exact hw⟩, hS.F ht⟩) hS.2.2 hc hs
theorem th_to {mu' : th_M} {st' : List th_V} (hm : mu' = mu) (hs : st' = st) (k : th_G l z nL pc lv st mu kc ks) : th_G l z nL pc lv st' mu' kc ks := by
  subst hm; subst hs; exact k
theorem th_of {y : MethodName} {mL : Nat} {as : List th_V} {Φ : th_P} (hl : l.stackTraces = false) (hy : plainName y.cls = true) (hn : as.length ≤ mL)
    (body : ∀ z : th_Z, th_C l z cc mL y.cls rm ret [] → th_Q z Φ rm.cells rm.slots → th_N z y.name → th_G l z mL 0 (th_al 0 as) [] mu 0 0) : th_F l y cc mL ret rm as mu Φ := by
  intro D cA base al hal
  refine vx_ofW (cc := cc) (maxL := mL) (ret := ret) hy rfl ?_
  intro p e s m args below meth c s₁ B hml htab hv
  obtain ⟨rfl, hbs, hw, hK, hST⟩ := hv
  have hts := atoms_spec (ws := .code y cc mL ret :: th_B) B.pre
  have hown : s.vm.findClass y.cls = some m.cls := findClass_of_methodNamed B.named
  have hg := body (p, e, (headSpec (.code y cc mL ret :: th_B) rm).room, s, m, (as.map (th_cv al)).toArray, below, meth, c, _, D, cA, base, al)
    ⟨B.exec, B.bytes, hml, hown, fun w h => hts w (List.mem_cons_of_mem _ h), B.notSynchronized, hK, hST, hbs, rfl, B.returns, List.eq_nil_iff_forall_not_mem.mpr (fun x hx => htab x hx), hl, hal⟩ rfl (name_of_methodNamed B.named B.method).1
  rw [lg_entry_eq]
  exact hg s.heap [] _ hw va_S.rf (by rw [← th_al_args]; exact lv_entry (as.map (th_cv al)) (by rw [th_al_len]; exact hn))
def th_okB (own : String) (ix : Nat) (y : MethodName) (cy : ByteArray) (mL : Nat) (rety : Option FieldType) (n : Nat) : Prop :=
  Cond.code y cy mL rety ∈ th_B ∧ Cond.initialized y.cls ∈ th_B ∧ Cond.methodLink own ix y ∈ th_B ∧ y.cls ≠ "java/lang/invoke/MethodHandle" ∧ y.cls ≠ "java/lang/invoke/VarHandle" ∧ (parseMethodDescriptor y.desc).map (fun d => d.parameters.length) = some n
def th_okV (own : String) (ix : Nat) (Cn : String) (y : MethodName) (cy : ByteArray) (mL : Nat) (rety : Option FieldType) (n : Nat) : Prop :=
  th_okB own ix y cy mL rety n ∧ Cond.instanceMethod y ∈ th_B ∧ Cond.selects Cn y y ∈ th_B
def th_okS (own : String) (ix : Nat) (y : MethodName) (cy : ByteArray) (mL : Nat) (rety : Option FieldType) (n : Nat) : Prop :=
  th_okB own ix y cy mL rety n ∧ Cond.static y ∈ th_B
theorem th_callB {R : Room} {s : State} {args : Array Value} {own : String} {ix : Nat} {y : MethodName} {cy : ByteArray} {mL n : Nat} {rety : Option FieldType} {rmy : Room} (hts : ∀ w ∈ th_B, w.before args s = true) (ok : th_okB own ix y cy mL rety n) (hf : rmy.frames + 1 ≤ R.frames) (hlo : 8 + (mL + 11) + rmy.locals ≤ R.locals) :
    CallB R s args own ix y cy mL rety (.code y cy mL rety :: th_B) rmy rmy.cells rmy.slots n := by
  obtain ⟨h1, h2, h3, h4, h5, h6⟩ := ok
  refine ⟨rfl, rfl, hf, hlo, fun w hw a' U hW => ?_, List.mem_cons_self, hts _ h1, hts _ h2, ⟨h4, h5⟩, fun sig h => ?_, hts _ h3⟩
  · have hm : w ∈ th_B := by
      rcases List.mem_cons.mp hw with rfl | h
      · exact h1
      · exact h
    exact word_at hW (good_of_word (List.mem_filter.mp hm).2) (hts w hm)
  · rw [h] at h6
    exact (Option.some.inj h6).symm
theorem th_Pc_blind {D : va_G} {cA : Nat → ClassId} {base : Nat} {al : th_A} {as : List th_V} : FrameBlind (th_Pc D cA base al as mu) := by
  intro a U g mk q
  obtain ⟨q0, q1, q2, q3, q4⟩ := q
  exact ⟨q0, q1, q2, va_K.moved (u := U) (U := U.calling g mk a) (Vm.Alike.refl U.vm) q3, th_S_moved (u := U) (U := U.calling g mk a) (State.WarmedH.refl U) q4⟩
theorem th_Pc_at {D : va_G} {cA : Nat → ClassId} {base : Nat} {al : th_A} {as : List th_V} {s U : State} {H : Heap} {locs : List Loc} (hU : U.heap = H) (hW : s.WarmedH U.vm) (hbs : base ≤ s.heap.size) (hw : th_W D cA base al mu H) (hK : va_K D th_Cl (th_ty cA) s) (hST : th_S base al s s.heap) (hS : va_S (fun q => base ≤ q) s.heap H locs) : th_Pc D cA base al as mu (as.map (th_cv al)).toArray U := by
  subst hU
  exact ⟨rfl, Nat.le_trans hbs hS.1, hw, va_K.moved hW.alike hK, th_S_moved hW (th_S_kept hST hS.2.1)⟩
theorem th_cat_sum (al : th_A) : ∀ st : List th_V, ((st.map (th_cv al)).map fun v => v.category).sum = st.length
  | [] => rfl
  | v :: st => by
    have h := th_cat_sum al st
    simp only [List.map_cons, List.sum_cons, th_cv_cat, List.length_cons, h]
    omega
def th_okR (rmy rm : Room) (mL kc ks : Nat) : Bool := Nat.ble (rmy.frames + 1) rm.frames && Nat.ble (8 + (mL + 11) + rmy.locals) rm.locals && Nat.ble (kc + rmy.cells) rm.cells && Nat.ble (ks + rmy.slots) rm.slots
theorem th_okR_of {rmy rm : Room} {mL kc ks : Nat} (h : th_okR rmy rm mL kc ks = true) : (rmy.frames + 1 ≤ rm.frames ∧ 8 + (mL + 11) + rmy.locals ≤ rm.locals) ∧ kc + rmy.cells ≤ rm.cells ∧ ks + rmy.slots ≤ rm.slots := by
  simp only [th_okR, Bool.and_eq_true, Nat.ble_eq] at h
  exact ⟨⟨h.1.1.1, h.1.1.2⟩, h.1.2, h.2⟩
theorem th_core {p : Program} {e : Env} {R : Room} {s : State} {m : MethodId} {args : Array Value} {below : List Frame} {meth : Method} {c : Code} {Q : State → Prop} {D : va_G} {cA : Nat → ClassId} {base : Nat} {al : th_A} {H : Heap} {locs : List Loc} {ls : Array Slot} {mc ms : Nat} {stk : List Value} {a : Array Value} {Φ : th_P}
    (hr : vx_Run p l e R s m args below meth c H locs kc ks mc ms (F0 m pc ls stk) (st.map (th_cv al)) (th_Qc D cA base al Φ a) (th_Xc D cA base al Φ) (fun q => base ≤ q))
    (hS : va_S (fun q => base ≤ q) s.heap H locs) (hl : lv_has ls nL (lv.map fun q => (q.1, th_cv al q.2)))
    (k : ∀ v mu', Φ (.inl v) mu' → th_G l (p, e, R, s, m, args, below, meth, c, Q, D, cA, base, al) nL (pc + 3) lv (v.toList ++ st) mu' (kc + mc) (ks + ms))
    (kx : ∀ E mu', Φ (.inr E) mu' → th_X l (p, e, R, s, m, args, below, meth, c, Q, D, cA, base, al) nL pc lv E mu' (kc + mc) (ks + ms)) : W p l e R s m args below meth c H locs kc ks Q (F0 m pc ls stk) := by
  intro T hT X
  rcases hr T hT X with ⟨v', st₀, t, T', L, h0, X', hL, e1, e2, ⟨⟨v, mu', ho, hv, hw⟩, hF⟩, stp⟩ | ⟨q, st₀, t, T', L, E, ce, h0, X', hL, e1, e2, ⟨⟨mu', ho, hw⟩, hF⟩, hce, hcv, hcl, stp⟩
  · cases hv
    obtain ⟨k1, k2, k3⟩ := vx_keep h0 e1 hS (fun q _ h => h) (fun q h => h) hL hF
    obtain ⟨t2, a1, b1⟩ := k v mu' ho T'.heap (locs ++ L) ls (by rw [e1]; exact hw) k3 hl T' rfl X'
    refine ⟨t2, stp t2 ?_, b1⟩
    cases v <;> exact a1
  · obtain ⟨k1, k2, k3⟩ := vx_keep h0 e1 hS (fun q _ h => h) (fun q h => h) hL hF
    obtain ⟨t2, a1, b1⟩ := kx E mu' ho T'.heap (locs ++ L) ls (st.map (th_cv al)) q ce (by rw [e1]; exact hw) k3 hl (by rw [e1]; exact hce) hcv hcl T' rfl X'
    exact ⟨t2, stp.trans a1, b1⟩
theorem th_runV {p : Program} {e : Env} {R : Room} {s : State} {m : MethodId} {args : Array Value} {below : List Frame} {meth : Method} {c : Code} {Q : State → Prop} {D : va_G} {cA : Nat → ClassId} {base : Nat} {al : th_A} {H : Heap} {locs : List Loc} {ls : Array Slot} {y : MethodName} {cy : ByteArray} {mL : Nat} {rety : Option FieldType} {rmy : Room} {as : List th_V} {Φ : th_P} {t i ci ix N : Nat} {Cn : String} {T : u_T} {stk : List th_V}
    (C : th_C l (p, e, R, s, m, args, below, meth, c, Q, D, cA, base, al) cc nL own rm ret tb) (hw : th_W D cA base al mu H) (hS : va_S (fun q => base ≤ q) s.heap H locs) (hl : lv_has ls nL (lv.map fun q => (q.1, th_cv al q.2)))
    (hM : th_F l y cy mL rety rmy (.inr (some (t, i)) :: as) mu Φ) (ok : th_okV own ix Cn y cy mL rety as.length) (hrm : th_okR rmy rm mL kc ks = true) (hi : i < mu.1 t) (hk : th_kd t = (0, ci)) (hc : th_Cl[ci]? = some (Cn, T, N)) (hst : st.length ≤ 8) (hd : decode cc pc = .ok (.invokevirtual ix, 3)) (hstk : as.reverse ++ .inr (some (t, i)) :: st = stk) :
    ∃ a, vx_Run p l e R s m args below meth c H locs kc ks rmy.cells rmy.slots (F0 m pc ls (stk.map (th_cv al))) (st.map (th_cv al)) (th_Qc D cA base al Φ a) (th_Xc D cA base al Φ) (fun q => base ≤ q) := by
  obtain ⟨hx, hb, hml, hown, hts, hlo, hK, hST, hbs, hR, hr, htb, htr, hal⟩ := C
  subst hstk
  subst hR
  obtain ⟨⟨hf1, hf2⟩, hf3, hf4⟩ := th_okR_of hrm
  obtain ⟨ok1, ok2, ok3⟩ := ok
  obtain ⟨cell, q1, q2, q3, q4⟩ := th_ck_obj (hw.1 t i hi) hk hc
  obtain ⟨hSl, hfc, kC, hkC, hkind⟩ := hK.1 ci _ hc
  exact ⟨_, vx_runV (C := Cn) (b := al t i) (As := as.map (th_cv al)) ⟨hx, hb, hml, hown, hts⟩ (hM D cA base al hal) ⟨th_callB hts ok1 hf1 hf2, hts _ ok2, hts _ ok3⟩ ⟨th_Pc_blind, ⟨cell, q1, by rw [q3]; rfl, by rw [q2]; exact hfc⟩, fun U hU hW => th_Pc_at hU hW hbs hw hK hST hS⟩ rfl (by simp) hl.1 (by simp [th_cv]) (lv_room (by rw [th_cat_sum]; exact hst)) hd ⟨hf3, hf4⟩⟩
theorem th_runS {p : Program} {e : Env} {R : Room} {s : State} {m : MethodId} {args : Array Value} {below : List Frame} {meth : Method} {c : Code} {Q : State → Prop} {D : va_G} {cA : Nat → ClassId} {base : Nat} {al : th_A} {H : Heap} {locs : List Loc} {ls : Array Slot} {y : MethodName} {cy : ByteArray} {mL : Nat} {rety : Option FieldType} {rmy : Room} {as : List th_V} {Φ : th_P} {ix : Nat} {stk : List th_V}
    (C : th_C l (p, e, R, s, m, args, below, meth, c, Q, D, cA, base, al) cc nL own rm ret tb) (hw : th_W D cA base al mu H) (hS : va_S (fun q => base ≤ q) s.heap H locs) (hl : lv_has ls nL (lv.map fun q => (q.1, th_cv al q.2)))
    (hM : th_F l y cy mL rety rmy as mu Φ) (ok : th_okS own ix y cy mL rety as.length) (hrm : th_okR rmy rm mL kc ks = true) (hst : st.length ≤ 8) (hd : decode cc pc = .ok (.invokestatic ix, 3)) (hstk : as.reverse ++ st = stk) :
    ∃ a, vx_Run p l e R s m args below meth c H locs kc ks rmy.cells rmy.slots (F0 m pc ls (stk.map (th_cv al))) (st.map (th_cv al)) (th_Qc D cA base al Φ a) (th_Xc D cA base al Φ) (fun q => base ≤ q) := by
  obtain ⟨hx, hb, hml, hown, hts, hlo, hK, hST, hbs, hR, hr, htb, htr, hal⟩ := C
  subst hstk
  subst hR
  obtain ⟨⟨hf1, hf2⟩, hf3, hf4⟩ := th_okR_of hrm
  obtain ⟨ok1, ok2⟩ := ok
  exact ⟨_, vx_runS (As := as.map (th_cv al)) ⟨hx, hb, hml, hown, hts⟩ (hM D cA base al hal) ⟨th_callB hts ok1 hf1 hf2, hts _ ok2⟩ ⟨th_Pc_blind, fun U hU hW => th_Pc_at hU hW hbs hw hK hST hS⟩ rfl (by simp) hl.1 (by simp) (lv_room (by rw [th_cat_sum]; exact hst)) hd ⟨hf3, hf4⟩⟩
theorem th_callV {y : MethodName} {cy : ByteArray} {mL : Nat} {rety : Option FieldType} {rmy : Room} {as : List th_V} {Φ : th_P} {t i ci ix N : Nat} {Cn : String} {T : u_T} {stk : List th_V} (C : th_C l z cc nL own rm ret tb)
    (hM : th_F l y cy mL rety rmy (.inr (some (t, i)) :: as) mu Φ) (ok : th_okV own ix Cn y cy mL rety as.length) (hrm : th_okR rmy rm mL kc ks = true) (hi : i < mu.1 t) (hk : th_kd t = (0, ci)) (hc : th_Cl[ci]? = some (Cn, T, N)) (hst : st.length ≤ 8) (hd : decode cc pc = .ok (.invokevirtual ix, 3)) (hstk : as.reverse ++ .inr (some (t, i)) :: st = stk)
    (kx : ∀ E mu', Φ (.inr E) mu' → th_X l z nL pc lv E mu' (kc + rmy.cells) (ks + rmy.slots))
    (k : ∀ v mu', Φ (.inl v) mu' → th_G l z nL (pc + 3) lv (v.toList ++ st) mu' (kc + rmy.cells) (ks + rmy.slots)) : th_G l z nL pc lv stk mu kc ks := by
  obtain ⟨p, e, R, s, m, args, below, meth, c, Q, D, cA, base, al⟩ := z
  intro H locs ls hw hS hl
  obtain ⟨a, hr⟩ := th_runV C hw hS hl hM ok hrm hi hk hc hst hd hstk
  exact th_core hr hS hl k kx
theorem th_callS {y : MethodName} {cy : ByteArray} {mL : Nat} {rety : Option FieldType} {rmy : Room} {as : List th_V} {Φ : th_P} {ix : Nat} {stk : List th_V} (C : th_C l z cc nL own rm ret tb)
    (hM : th_F l y cy mL rety rmy as mu Φ) (ok : th_okS own ix y cy mL rety as.length) (hrm : th_okR rmy rm mL kc ks = true) (hst : st.length ≤ 8) (hd : decode cc pc = .ok (.invokestatic ix, 3)) (hstk : as.reverse ++ st = stk)
    (kx : ∀ E mu', Φ (.inr E) mu' → th_X l z nL pc lv E mu' (kc + rmy.cells) (ks + rmy.slots))
    (k : ∀ v mu', Φ (.inl v) mu' → th_G l z nL (pc + 3) lv (v.toList ++ st) mu' (kc + rmy.cells) (ks + rmy.slots)) : th_G l z nL pc lv stk mu kc ks := by
  obtain ⟨p, e, R, s, m, args, below, meth, c, Q, D, cA, base, al⟩ := z
  intro H locs ls hw hS hl
  obtain ⟨a, hr⟩ := th_runS C hw hS hl hM ok hrm hst hd hstk
  exact th_core hr hS hl k kx
end BaseRows
