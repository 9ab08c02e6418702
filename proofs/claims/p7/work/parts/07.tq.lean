def th_cl (t ci : Nat) (Cn : String) (T : u_T) (N : Nat) (ty : Nat → FieldType) : Prop :=
  th_kd t = (0, ci) ∧ th_Cl[ci]? = some (Cn, T, N) ∧ (∀ w ∈ u_ws Cn T N, w ∈ th_B) ∧ (∀ k, k < N → parseFieldDescriptor (T k).2.2.1 = some (ty k)) ∧ (∀ a, a < N → ∀ b, b < N → a ≠ b → (T a).2.1 ≠ (T b).2.1)
def th_fd (own : String) (ix : Nat) (T : u_T) (N kf : Nat) : Prop := kf < N ∧ Cond.fieldLink own ix (T kf).1 (T kf).2.1 (T kf).2.2.1 ∈ th_B
theorem th_toInt_add {x y : Int32} (h1 : -2147483648 ≤ x.toInt + y.toInt) (h2 : x.toInt + y.toInt ≤ 2147483647) : (x + y).toInt = x.toInt + y.toInt := by
  rw [Int32.toInt_add]
  exact Int.bmod_eq_of_le (by omega) (by omega)
theorem th_toInt_sub {x y : Int32} (h1 : -2147483648 ≤ x.toInt - y.toInt) (h2 : x.toInt - y.toInt ≤ 2147483647) : (x - y).toInt = x.toInt - y.toInt := by
  rw [Int32.toInt_sub]
  exact Int.bmod_eq_of_le (by omega) (by omega)
theorem th_lt (x : Int32) : -2147483648 ≤ x.toInt ∧ x.toInt ≤ 2147483647 := by
  have h1 := Int32.le_toInt x
  have h2 := Int32.toInt_lt x
  omega
theorem th_z0 : (0 : Int32).toInt = 0 := by decide
theorem th_eqi {x y : Int32} (h : x.toInt = y.toInt) : x = y := Int32.toInt_inj.mp h
theorem th_u_eq (I : th_I) (t i k : Nat) (v : Int32) : th_u I t i k v t i k = v := by simp [th_u, upd]
theorem th_u_tag {I : th_I} {t i k t' i' k' : Nat} {v : Int32} (h : t' ≠ t) : th_u I t i k v t' i' k' = I t' i' k' := by
  simp [th_u, h]
theorem th_u_slot {I : th_I} {t i k i' k' : Nat} {v : Int32} (h : k' ≠ k) : th_u I t i k v t i' k' = I t i' k' := by
  unfold th_u
  split
  · rename_i q
    obtain ⟨-, rfl⟩ := q
    simp [upd, h]
  · rfl
theorem th_u_idx {I : th_I} {t i k i' k' : Nat} {v : Int32} (h : i' ≠ i) : th_u I t i k v t i' k' = I t i' k' := by
  simp [th_u, h]
theorem th_u_or (I : th_I) (t i k : Nat) (v : Int32) (t' i' k' : Nat) : (t' = t ∧ i' = i ∧ k' = k ∧ th_u I t i k v t' i' k' = v) ∨ th_u I t i k v t' i' k' = I t' i' k' := by
  by_cases h1 : t' = t
  · by_cases h2 : i' = i
    · by_cases h3 : k' = k
      · subst h1; subst h2; subst h3
        exact Or.inl ⟨rfl, rfl, rfl, th_u_eq _ _ _ _ _⟩
      · subst h1
        exact Or.inr (th_u_slot h3)
    · subst h1
      exact Or.inr (th_u_idx h2)
  · exact Or.inr (th_u_tag h1)
section TQ
variable {l : Launch} {z : th_Z} {cc : ByteArray} {nL pc kc ks : Nat} {own : String} {rm : Room} {ret : Option FieldType} {tb : List ExceptionTableEntry} {lv : List (Nat × th_V)} {st : List th_V} {I : th_I} {mu : th_M}
theorem th_gen {P : th_I → Prop} (h : P I) (k : ∀ J, P J → th_G l z nL pc lv st (th_m J) kc ks) : th_G l z nL pc lv st (th_m I) kc ks := k I h
theorem tq_getI (C : th_C l z cc nL own rm ret tb) {t i ci ix kf N : Nat} {Cn : String} {T : u_T} {ty : Nat → FieldType} (hd : decode cc pc = .ok (.getfield ix, 3)) (K : th_cl t ci Cn T N ty) (F : th_fd own ix T N kf) (hr : th_fr t kf = false) (hi : i < th_cn t)
    (k : ∀ x : Int32, x = I t i kf → th_G l z nL (pc + 3) lv (.inl x :: st) (th_m I) kc ks) : th_G l z nL pc lv (.inr (some (t, i)) :: st) (th_m I) kc ks :=
  th_getI (mu := th_m I) C hd hi K.1 K.2.1 K.2.2.1 F.1 hr F.2 (k _ rfl)
theorem tq_getIe (C : th_C l z cc nL own rm ret tb) {t i ci ix kf N : Nat} {Cn : String} {T : u_T} {ty : Nat → FieldType} {x : Int32} (hd : decode cc pc = .ok (.getfield ix, 3)) (K : th_cl t ci Cn T N ty) (F : th_fd own ix T N kf) (hr : th_fr t kf = false) (hi : i < th_cn t) (hx : x = I t i kf)
    (k : th_G l z nL (pc + 3) lv (.inl x :: st) (th_m I) kc ks) : th_G l z nL pc lv (.inr (some (t, i)) :: st) (th_m I) kc ks :=
  th_getI (mu := th_m I) C hd hi K.1 K.2.1 K.2.2.1 F.1 hr F.2 (by subst hx; exact k)
theorem tq_getR (C : th_C l z cc nL own rm ret tb) {t i ci ix kf N : Nat} {Cn : String} {T : u_T} {ty : Nat → FieldType} {q : Nat × Nat} (hd : decode cc pc = .ok (.getfield ix, 3)) (K : th_cl t ci Cn T N ty) (F : th_fd own ix T N kf) (hr : th_fr t kf = true) (hi : i < th_cn t) (hv : th_P0 t i kf = some q)
    (k : th_G l z nL (pc + 3) lv (.inr (some q) :: st) (th_m I) kc ks) : th_G l z nL pc lv (.inr (some (t, i)) :: st) (th_m I) kc ks :=
  th_getR (mu := th_m I) C hd hi K.1 K.2.1 K.2.2.1 F.1 hr F.2 hv k
theorem tq_putI (C : th_C l z cc nL own rm ret tb) {t i ci ix kf N : Nat} {Cn : String} {T : u_T} {ty : Nat → FieldType} {v : Int32} (hd : decode cc pc = .ok (.putfield ix, 3)) (K : th_cl t ci Cn T N ty) (F : th_fd own ix T N kf) (hr : th_fr t kf = false) (hi : i < th_cn t) (hfin : (T kf).2.2.2 = false) (hty : ty kf = .int)
    (k : th_G l z nL (pc + 3) lv st (th_m (th_u I t i kf v)) kc ks) : th_G l z nL pc lv (.inl v :: .inr (some (t, i)) :: st) (th_m I) kc ks :=
  th_putI (mu := th_m I) C hd hi K.1 K.2.1 K.2.2.1 ty K.2.2.2.1 K.2.2.2.2 F.1 hr F.2 hfin (by rw [hty]; rfl) (by rw [hty]; rfl) k
theorem tq_putZ (C : th_C l z cc nL own rm ret tb) {t i ci ix kf N : Nat} {Cn : String} {T : u_T} {ty : Nat → FieldType} {v : Int32} (hd : decode cc pc = .ok (.putfield ix, 3)) (K : th_cl t ci Cn T N ty) (F : th_fd own ix T N kf) (hr : th_fr t kf = false) (hi : i < th_cn t) (hfin : (T kf).2.2.2 = false) (hty : ty kf = .boolean) (hv : narrow .boolean (.int v) = .int v) (hft : fits .boolean (.int v) = true)
    (k : th_G l z nL (pc + 3) lv st (th_m (th_u I t i kf v)) kc ks) : th_G l z nL pc lv (.inl v :: .inr (some (t, i)) :: st) (th_m I) kc ks :=
  th_putI (mu := th_m I) C hd hi K.1 K.2.1 K.2.2.1 ty K.2.2.2.1 K.2.2.2.2 F.1 hr F.2 hfin (by rw [hty]; exact hv) (by rw [hty]; exact hft) k
theorem th_ix_of {x : Int32} {a : Int} {L : Nat} (hx : x.toInt = a) (h0 : 0 ≤ a) (h1 : a < (L : Int)) : ∃ n : Nat, th_ix x n L ∧ (n : Int) = a ∧ n < L := by
  subst hx
  have hn : x.toNatClampNeg = x.toInt.toNat := rfl
  refine ⟨x.toInt.toNat, ⟨?_, hn⟩, by omega, by omega⟩
  rintro (h | h)
  · rw [Int32.lt_iff_toInt_lt] at h
    have h2 : (0 : Int32).toInt = 0 := by decide
    omega
  · rw [hn] at h
    omega
theorem tq_iald (C : th_C l z cc nL own rm ret tb) {t i j : Nat} {x : Int32} {a : Int} (hd : decode cc pc = .ok (.iaload, 1)) (hk : th_kd t = (1, j)) (hty : ∀ cA, (th_ty cA)[j]? = some (cA j, .int)) (hi : i < th_cn t) (hx : x.toInt = a) (h0 : 0 ≤ a) (h1 : a < (th_L0 t i : Int))
    (k : ∀ (n : Nat) (y : Int32), (n : Int) = a → n < th_L0 t i → y = I t i n → th_G l z nL (pc + 1) lv (.inl y :: st) (th_m I) kc ks) : th_G l z nL pc lv (.inl x :: .inr (some (t, i)) :: st) (th_m I) kc ks := by
  obtain ⟨n, h2, h3, h4⟩ := th_ix_of hx h0 h1
  exact th_iald (mu := th_m I) C hd hi hk hty h2 (k n _ h3 h4 rfl)
theorem tq_iast (C : th_C l z cc nL own rm ret tb) {t i j : Nat} {x v : Int32} {a : Int} (hd : decode cc pc = .ok (.iastore, 1)) (hk : th_kd t = (1, j)) (hty : ∀ cA, (th_ty cA)[j]? = some (cA j, .int)) (hi : i < th_cn t) (hx : x.toInt = a) (h0 : 0 ≤ a) (h1 : a < (th_L0 t i : Int))
    (k : ∀ n : Nat, (n : Int) = a → n < th_L0 t i → th_G l z nL (pc + 1) lv st (th_m (th_u I t i n v)) kc ks) : th_G l z nL pc lv (.inl v :: .inl x :: .inr (some (t, i)) :: st) (th_m I) kc ks := by
  obtain ⟨n, h2, h3, h4⟩ := th_ix_of hx h0 h1
  exact th_iast (mu := th_m I) C hd hi hk hty h2 (k n h3 h4)
theorem tq_aald (C : th_C l z cc nL own rm ret tb) {t i j : Nat} {x : Int32} {a : Int} {Cn : String} {q : Nat → Nat × Nat} (hd : decode cc pc = .ok (.aaload, 1)) (hk : th_kd t = (2, j)) (hty : ∀ cA, (th_ty cA)[j]? = some (cA j, .object Cn)) (hi : i < th_cn t) (hx : x.toInt = a) (h0 : 0 ≤ a) (h1 : a < (th_L0 t i : Int)) (hv : ∀ n, th_P0 t i n = some (q n))
    (k : ∀ n : Nat, (n : Int) = a → n < th_L0 t i → th_G l z nL (pc + 1) lv (.inr (some (q n)) :: st) (th_m I) kc ks) : th_G l z nL pc lv (.inl x :: .inr (some (t, i)) :: st) (th_m I) kc ks := by
  obtain ⟨n, h2, h3, h4⟩ := th_ix_of hx h0 h1
  exact th_aald (mu := th_m I) C hd hi hk hty h2 (hv n) (k n h3 h4)
theorem th_ixN {x : Int32} {a : Int} {n L : Nat} (hx : x.toInt = a) (hn : (n : Int) = a) (h1 : n < L) : th_ix x n L := by
  obtain ⟨m, h2, h3, h4⟩ := th_ix_of (L := L) hx (by omega) (by omega)
  have : m = n := by omega
  rw [← this]
  exact h2
theorem tq_ialdN (C : th_C l z cc nL own rm ret tb) {t i j n : Nat} {x : Int32} {a : Int} (hd : decode cc pc = .ok (.iaload, 1)) (hk : th_kd t = (1, j)) (hty : ∀ cA, (th_ty cA)[j]? = some (cA j, .int)) (hi : i < th_cn t) (hx : x.toInt = a) (hn : (n : Int) = a) (h1 : n < th_L0 t i)
    (k : ∀ y : Int32, y = I t i n → th_G l z nL (pc + 1) lv (.inl y :: st) (th_m I) kc ks) : th_G l z nL pc lv (.inl x :: .inr (some (t, i)) :: st) (th_m I) kc ks :=
  th_iald (mu := th_m I) C hd hi hk hty (th_ixN hx hn h1) (k _ rfl)
theorem tq_ialdE (C : th_C l z cc nL own rm ret tb) {t i j n : Nat} {x y : Int32} {a : Int} (hd : decode cc pc = .ok (.iaload, 1)) (hk : th_kd t = (1, j)) (hty : ∀ cA, (th_ty cA)[j]? = some (cA j, .int)) (hi : i < th_cn t) (hx : x.toInt = a) (hn : (n : Int) = a) (h1 : n < th_L0 t i) (hy : y = I t i n)
    (k : th_G l z nL (pc + 1) lv (.inl y :: st) (th_m I) kc ks) : th_G l z nL pc lv (.inl x :: .inr (some (t, i)) :: st) (th_m I) kc ks :=
  th_iald (mu := th_m I) C hd hi hk hty (th_ixN hx hn h1) (by subst hy; exact k)
theorem tq_iastN (C : th_C l z cc nL own rm ret tb) {t i j n : Nat} {x v : Int32} {a : Int} (hd : decode cc pc = .ok (.iastore, 1)) (hk : th_kd t = (1, j)) (hty : ∀ cA, (th_ty cA)[j]? = some (cA j, .int)) (hi : i < th_cn t) (hx : x.toInt = a) (hn : (n : Int) = a) (h1 : n < th_L0 t i)
    (k : th_G l z nL (pc + 1) lv st (th_m (th_u I t i n v)) kc ks) : th_G l z nL pc lv (.inl v :: .inl x :: .inr (some (t, i)) :: st) (th_m I) kc ks :=
  th_iast (mu := th_m I) C hd hi hk hty (th_ixN hx hn h1) k
theorem tq_aaldN (C : th_C l z cc nL own rm ret tb) {t i j n : Nat} {x : Int32} {a : Int} {Cn : String} {q : Nat → Nat × Nat} (hd : decode cc pc = .ok (.aaload, 1)) (hk : th_kd t = (2, j)) (hty : ∀ cA, (th_ty cA)[j]? = some (cA j, .object Cn)) (hi : i < th_cn t) (hx : x.toInt = a) (hn : (n : Int) = a) (h1 : n < th_L0 t i) (hv : ∀ n, th_P0 t i n = some (q n))
    (k : th_G l z nL (pc + 1) lv (.inr (some (q n)) :: st) (th_m I) kc ks) : th_G l z nL pc lv (.inl x :: .inr (some (t, i)) :: st) (th_m I) kc ks :=
  th_aald (mu := th_m I) C hd hi hk hty (th_ixN hx hn h1) (hv n) k
theorem th_nat {a : Int} (h : 0 ≤ a) : ∃ n : Nat, (n : Int) = a := ⟨a.toNat, by omega⟩
theorem tq_imul (C : th_C l z cc nL own rm ret tb) {x y : Int32} {a b : Int} (hd : decode cc pc = .ok (.imul, 1)) (hx : x.toInt = a) (hy : y.toInt = b)
    (k : ∀ r : Int32, r = x * y → (-2147483648 ≤ a * b ∧ a * b ≤ 2147483647 → r.toInt = a * b) → th_G l z nL (pc + 1) lv (.inl r :: st) mu kc ks) : th_G l z nL pc lv (.inl y :: .inl x :: st) mu kc ks := by
  subst hx; subst hy
  refine th_imul C hd (k _ rfl (fun h => ?_))
  rw [Int32.toInt_mul]
  exact Int.bmod_eq_of_le (by omega) (by omega)
theorem tq_alen (C : th_C l z cc nL own rm ret tb) {t i j : Nat} {v : Int32} (hd : decode cc pc = .ok (.arraylength, 1)) (hk : th_kd t = (1, j)) (hty : ∀ cA, (th_ty cA)[j]? = some (cA j, .int)) (hi : i < th_cn t) (hv : nI (th_L0 t i) = v)
    (k : th_G l z nL (pc + 1) lv (.inl v :: st) (th_m I) kc ks) : th_G l z nL pc lv (.inr (some (t, i)) :: st) (th_m I) kc ks := by
  subst hv
  exact th_alen (mu := th_m I) C hd hi hk hty k
theorem tq_iadd (C : th_C l z cc nL own rm ret tb) {x y : Int32} {a b : Int} (hd : decode cc pc = .ok (.iadd, 1)) (hx : x.toInt = a) (hy : y.toInt = b)
    (k : ∀ r : Int32, r = x + y → (-2147483648 ≤ a + b ∧ a + b ≤ 2147483647 → r.toInt = a + b) → th_G l z nL (pc + 1) lv (.inl r :: st) mu kc ks) : th_G l z nL pc lv (.inl y :: .inl x :: st) mu kc ks := by
  subst hx; subst hy
  exact th_iadd C hd (k _ rfl (fun h => th_toInt_add h.1 h.2))
theorem tq_isub (C : th_C l z cc nL own rm ret tb) {x y : Int32} {a b : Int} (hd : decode cc pc = .ok (.isub, 1)) (hx : x.toInt = a) (hy : y.toInt = b)
    (k : ∀ r : Int32, r = x - y → (-2147483648 ≤ a - b ∧ a - b ≤ 2147483647 → r.toInt = a - b) → th_G l z nL (pc + 1) lv (.inl r :: st) mu kc ks) : th_G l z nL pc lv (.inl y :: .inl x :: st) mu kc ks := by
  subst hx; subst hy
  exact th_isub C hd (k _ rfl (fun h => th_toInt_sub h.1 h.2))
theorem tq_ineg (C : th_C l z cc nL own rm ret tb) {x : Int32} (hd : decode cc pc = .ok (.ineg, 1))
    (k : ∀ r : Int32, r = -x → th_G l z nL (pc + 1) lv (.inl r :: st) mu kc ks) : th_G l z nL pc lv (.inl x :: st) mu kc ks :=
  th_ineg C hd (k _ rfl)
theorem tq_iinc (C : th_C l z cc nL own rm ret tb) {i : Nat} {n : Int} {x w : Int32} {a b : Int} {lv' : Int32 → List (Nat × th_V)} (hd : decode cc pc = .ok (.iinc i n, 3)) (hx0 : th_lk lv i = some (.inl x)) (hn : i < nL) (hw : Int32.ofInt n = w) (hx : x.toInt = a) (hb : w.toInt = b) (h : ∀ r, th_st lv i (.inl r) = lv' r)
    (k : ∀ r : Int32, r = x + w → (-2147483648 ≤ a + b ∧ a + b ≤ 2147483647 → r.toInt = a + b) → th_G l z nL (pc + 3) (lv' r) st mu kc ks) : th_G l z nL pc lv st mu kc ks := by
  subst hx; subst hb; subst hw
  exact th_iinc C hd hx0 rfl hn (h _) (k _ rfl (fun q => th_toInt_add q.1 q.2))
theorem tq_if_eq (C : th_C l z cc nL own rm ret tb) {x : Int32} {a : Int} {off : Int} {tgt : Nat} (hd : decode cc pc = .ok (.ifCond .eq off, 3)) (ht : (pc : Int) + off = (tgt : Int)) (hx : x.toInt = a)
    (kt : a = 0 → th_G l z nL tgt lv st mu kc ks) (kf : ¬ (a = 0) → th_G l z nL (pc + 3) lv st mu kc ks) : th_G l z nL pc lv (.inl x :: st) mu kc ks := by
  subst hx
  exact th_if_eq C hd ht (fun h => kt (by subst h; exact th_z0)) (fun h => kf (fun q => h (th_eqi (q.trans th_z0.symm))))
theorem tq_icmp_eq (C : th_C l z cc nL own rm ret tb) {x y : Int32} {a b : Int} {off : Int} {tgt : Nat} (hd : decode cc pc = .ok (.if_icmp .eq off, 3)) (ht : (pc : Int) + off = (tgt : Int)) (hx : x.toInt = a) (hy : y.toInt = b)
    (kt : a = b → th_G l z nL tgt lv st mu kc ks) (kf : ¬ (a = b) → th_G l z nL (pc + 3) lv st mu kc ks) : th_G l z nL pc lv (.inl y :: .inl x :: st) mu kc ks := by
  subst hx; subst hy
  exact th_icmp_eq C hd ht (fun h => kt (by rw [h])) (fun h => kf (fun q => h (th_eqi q)))
theorem tq_if_ne (C : th_C l z cc nL own rm ret tb) {x : Int32} {a : Int} {off : Int} {tgt : Nat} (hd : decode cc pc = .ok (.ifCond .ne off, 3)) (ht : (pc : Int) + off = (tgt : Int)) (hx : x.toInt = a)
    (kt : a ≠ 0 → th_G l z nL tgt lv st mu kc ks) (kf : ¬ (a ≠ 0) → th_G l z nL (pc + 3) lv st mu kc ks) : th_G l z nL pc lv (.inl x :: st) mu kc ks := by
  subst hx
  exact th_if_ne C hd ht (fun h => kt (fun q => h (th_eqi (q.trans th_z0.symm)))) (fun h => kf (fun q => q (by subst h; exact th_z0)))
theorem tq_icmp_ne (C : th_C l z cc nL own rm ret tb) {x y : Int32} {a b : Int} {off : Int} {tgt : Nat} (hd : decode cc pc = .ok (.if_icmp .ne off, 3)) (ht : (pc : Int) + off = (tgt : Int)) (hx : x.toInt = a) (hy : y.toInt = b)
    (kt : a ≠ b → th_G l z nL tgt lv st mu kc ks) (kf : ¬ (a ≠ b) → th_G l z nL (pc + 3) lv st mu kc ks) : th_G l z nL pc lv (.inl y :: .inl x :: st) mu kc ks := by
  subst hx; subst hy
  exact th_icmp_ne C hd ht (fun h => kt (fun q => h (th_eqi q))) (fun h => kf (fun q => q (by rw [h])))
theorem tq_if_lt (C : th_C l z cc nL own rm ret tb) {x : Int32} {a : Int} {off : Int} {tgt : Nat} (hd : decode cc pc = .ok (.ifCond .lt off, 3)) (ht : (pc : Int) + off = (tgt : Int)) (hx : x.toInt = a)
    (kt : a < 0 → th_G l z nL tgt lv st mu kc ks) (kf : ¬ (a < 0) → th_G l z nL (pc + 3) lv st mu kc ks) : th_G l z nL pc lv (.inl x :: st) mu kc ks := by
  subst hx
  exact th_if_lt C hd ht (fun h => kt (by have h2 := Int32.lt_iff_toInt_lt.mp h; rw [th_z0] at h2; exact h2)) (fun h => kf (fun q => h (Int32.lt_iff_toInt_lt.mpr (by rw [th_z0]; exact q))))
theorem tq_icmp_lt (C : th_C l z cc nL own rm ret tb) {x y : Int32} {a b : Int} {off : Int} {tgt : Nat} (hd : decode cc pc = .ok (.if_icmp .lt off, 3)) (ht : (pc : Int) + off = (tgt : Int)) (hx : x.toInt = a) (hy : y.toInt = b)
    (kt : a < b → th_G l z nL tgt lv st mu kc ks) (kf : ¬ (a < b) → th_G l z nL (pc + 3) lv st mu kc ks) : th_G l z nL pc lv (.inl y :: .inl x :: st) mu kc ks := by
  subst hx; subst hy
  exact th_icmp_lt C hd ht (fun h => kt (Int32.lt_iff_toInt_lt.mp h)) (fun h => kf (fun q => h (Int32.lt_iff_toInt_lt.mpr q)))
theorem tq_if_ge (C : th_C l z cc nL own rm ret tb) {x : Int32} {a : Int} {off : Int} {tgt : Nat} (hd : decode cc pc = .ok (.ifCond .ge off, 3)) (ht : (pc : Int) + off = (tgt : Int)) (hx : x.toInt = a)
    (kt : 0 ≤ a → th_G l z nL tgt lv st mu kc ks) (kf : ¬ (0 ≤ a) → th_G l z nL (pc + 3) lv st mu kc ks) : th_G l z nL pc lv (.inl x :: st) mu kc ks := by
  subst hx
  exact th_if_ge C hd ht (fun h => kt (by have h2 := Int32.le_iff_toInt_le.mp h; rw [th_z0] at h2; exact h2)) (fun h => kf (fun q => h (Int32.le_iff_toInt_le.mpr (by rw [th_z0]; exact q))))
theorem tq_icmp_ge (C : th_C l z cc nL own rm ret tb) {x y : Int32} {a b : Int} {off : Int} {tgt : Nat} (hd : decode cc pc = .ok (.if_icmp .ge off, 3)) (ht : (pc : Int) + off = (tgt : Int)) (hx : x.toInt = a) (hy : y.toInt = b)
    (kt : b ≤ a → th_G l z nL tgt lv st mu kc ks) (kf : ¬ (b ≤ a) → th_G l z nL (pc + 3) lv st mu kc ks) : th_G l z nL pc lv (.inl y :: .inl x :: st) mu kc ks := by
  subst hx; subst hy
  exact th_icmp_ge C hd ht (fun h => kt (Int32.le_iff_toInt_le.mp h)) (fun h => kf (fun q => h (Int32.le_iff_toInt_le.mpr q)))
theorem tq_if_gt (C : th_C l z cc nL own rm ret tb) {x : Int32} {a : Int} {off : Int} {tgt : Nat} (hd : decode cc pc = .ok (.ifCond .gt off, 3)) (ht : (pc : Int) + off = (tgt : Int)) (hx : x.toInt = a)
    (kt : 0 < a → th_G l z nL tgt lv st mu kc ks) (kf : ¬ (0 < a) → th_G l z nL (pc + 3) lv st mu kc ks) : th_G l z nL pc lv (.inl x :: st) mu kc ks := by
  subst hx
  exact th_if_gt C hd ht (fun h => kt (by have h2 := Int32.lt_iff_toInt_lt.mp h; rw [th_z0] at h2; exact h2)) (fun h => kf (fun q => h (Int32.lt_iff_toInt_lt.mpr (by rw [th_z0]; exact q))))
theorem tq_icmp_gt (C : th_C l z cc nL own rm ret tb) {x y : Int32} {a b : Int} {off : Int} {tgt : Nat} (hd : decode cc pc = .ok (.if_icmp .gt off, 3)) (ht : (pc : Int) + off = (tgt : Int)) (hx : x.toInt = a) (hy : y.toInt = b)
    (kt : b < a → th_G l z nL tgt lv st mu kc ks) (kf : ¬ (b < a) → th_G l z nL (pc + 3) lv st mu kc ks) : th_G l z nL pc lv (.inl y :: .inl x :: st) mu kc ks := by
  subst hx; subst hy
  exact th_icmp_gt C hd ht (fun h => kt (Int32.lt_iff_toInt_lt.mp h)) (fun h => kf (fun q => h (Int32.lt_iff_toInt_lt.mpr q)))
theorem tq_if_le (C : th_C l z cc nL own rm ret tb) {x : Int32} {a : Int} {off : Int} {tgt : Nat} (hd : decode cc pc = .ok (.ifCond .le off, 3)) (ht : (pc : Int) + off = (tgt : Int)) (hx : x.toInt = a)
    (kt : a ≤ 0 → th_G l z nL tgt lv st mu kc ks) (kf : ¬ (a ≤ 0) → th_G l z nL (pc + 3) lv st mu kc ks) : th_G l z nL pc lv (.inl x :: st) mu kc ks := by
  subst hx
  exact th_if_le C hd ht (fun h => kt (by have h2 := Int32.le_iff_toInt_le.mp h; rw [th_z0] at h2; exact h2)) (fun h => kf (fun q => h (Int32.le_iff_toInt_le.mpr (by rw [th_z0]; exact q))))
theorem tq_icmp_le (C : th_C l z cc nL own rm ret tb) {x y : Int32} {a b : Int} {off : Int} {tgt : Nat} (hd : decode cc pc = .ok (.if_icmp .le off, 3)) (ht : (pc : Int) + off = (tgt : Int)) (hx : x.toInt = a) (hy : y.toInt = b)
    (kt : a ≤ b → th_G l z nL tgt lv st mu kc ks) (kf : ¬ (a ≤ b) → th_G l z nL (pc + 3) lv st mu kc ks) : th_G l z nL pc lv (.inl y :: .inl x :: st) mu kc ks := by
  subst hx; subst hy
  exact th_icmp_le C hd ht (fun h => kt (Int32.le_iff_toInt_le.mp h)) (fun h => kf (fun q => h (Int32.le_iff_toInt_le.mpr q)))
def th_rp (I : th_I) (P : Int32 → Prop) : th_P := fun o mu => ∃ x, o = .inl (some (.inl x)) ∧ mu = th_m I ∧ P x
def th_rv (P : th_I → Prop) : th_P := fun o mu => ∃ J, o = .inl none ∧ mu = th_m J ∧ P J
def th_ri (P : Int32 → th_I → Prop) : th_P := fun o mu => ∃ x J, o = .inl (some (.inl x)) ∧ mu = th_m J ∧ P x J
def th_rt (I : th_I) (P : Prop) (X : String → Prop) : th_P := fun o mu => (o = .inl none ∧ mu = th_m I ∧ P) ∨ ∃ E, o = .inr E ∧ mu = th_m I ∧ X E
def th_rm (P : Int32 → th_I → Prop) (X : String → th_I → Prop) : th_P := fun o mu => (∃ x J, o = .inl (some (.inl x)) ∧ mu = th_m J ∧ P x J) ∨ ∃ E J, o = .inr E ∧ mu = th_m J ∧ X E J
theorem tq_callVp {y : MethodName} {cy : ByteArray} {mL : Nat} {rety : Option FieldType} {rmy : Room} {as : List th_V} {ix : Nat} {stk : List th_V} {t i ci N : Nat} {Cn : String} {T : u_T} {ty : Nat → FieldType} {P : Int32 → Prop} (C : th_C l z cc nL own rm ret tb) (hM : th_F l y cy mL rety rmy (.inr (some (t, i)) :: as) (th_m I) (th_rp I P)) (ok : th_okV own ix Cn y cy mL rety as.length) (K : th_cl t ci Cn T N ty) (hi : i < th_cn t) (hrm : th_okR rmy rm mL kc ks = true) (hst : st.length ≤ 8) (hd : decode cc pc = .ok (.invokevirtual ix, 3)) (hstk : as.reverse ++ .inr (some (t, i)) :: st = stk)
    (k : ∀ x : Int32, P x → th_G l z nL (pc + 3) lv (.inl x :: st) (th_m I) (kc + rmy.cells) (ks + rmy.slots)) : th_G l z nL pc lv stk (th_m I) kc ks := by
  refine th_callV (mu := th_m I) C hM ok hrm hi K.1 K.2.1 hst hd hstk (fun E mu' h => by obtain ⟨x, q, -⟩ := h; cases q) (fun v mu' h => ?_)
  obtain ⟨x, q, rfl, h⟩ := h
  cases q
  exact k x h
theorem tq_callVv {y : MethodName} {cy : ByteArray} {mL : Nat} {rety : Option FieldType} {rmy : Room} {as : List th_V} {ix : Nat} {stk : List th_V} {t i ci N : Nat} {Cn : String} {T : u_T} {ty : Nat → FieldType} {P : th_I → Prop} (C : th_C l z cc nL own rm ret tb) (hM : th_F l y cy mL rety rmy (.inr (some (t, i)) :: as) (th_m I) (th_rv P)) (ok : th_okV own ix Cn y cy mL rety as.length) (K : th_cl t ci Cn T N ty) (hi : i < th_cn t) (hrm : th_okR rmy rm mL kc ks = true) (hst : st.length ≤ 8) (hd : decode cc pc = .ok (.invokevirtual ix, 3)) (hstk : as.reverse ++ .inr (some (t, i)) :: st = stk)
    (k : ∀ J, P J → th_G l z nL (pc + 3) lv st (th_m J) (kc + rmy.cells) (ks + rmy.slots)) : th_G l z nL pc lv stk (th_m I) kc ks := by
  refine th_callV (mu := th_m I) C hM ok hrm hi K.1 K.2.1 hst hd hstk (fun E mu' h => by obtain ⟨J, q, -⟩ := h; cases q) (fun v mu' h => ?_)
  obtain ⟨J, q, rfl, h⟩ := h
  cases q
  exact k J h
theorem tq_callVi {y : MethodName} {cy : ByteArray} {mL : Nat} {rety : Option FieldType} {rmy : Room} {as : List th_V} {ix : Nat} {stk : List th_V} {t i ci N : Nat} {Cn : String} {T : u_T} {ty : Nat → FieldType} {P : Int32 → th_I → Prop} (C : th_C l z cc nL own rm ret tb) (hM : th_F l y cy mL rety rmy (.inr (some (t, i)) :: as) (th_m I) (th_ri P)) (ok : th_okV own ix Cn y cy mL rety as.length) (K : th_cl t ci Cn T N ty) (hi : i < th_cn t) (hrm : th_okR rmy rm mL kc ks = true) (hst : st.length ≤ 8) (hd : decode cc pc = .ok (.invokevirtual ix, 3)) (hstk : as.reverse ++ .inr (some (t, i)) :: st = stk)
    (k : ∀ (x : Int32) (J : th_I), P x J → th_G l z nL (pc + 3) lv (.inl x :: st) (th_m J) (kc + rmy.cells) (ks + rmy.slots)) : th_G l z nL pc lv stk (th_m I) kc ks := by
  refine th_callV (mu := th_m I) C hM ok hrm hi K.1 K.2.1 hst hd hstk (fun E mu' h => by obtain ⟨x, J, q, -⟩ := h; cases q) (fun v mu' h => ?_)
  obtain ⟨x, J, q, rfl, h⟩ := h
  cases q
  exact k x J h
theorem tq_callVt {y : MethodName} {cy : ByteArray} {mL : Nat} {rety : Option FieldType} {rmy : Room} {as : List th_V} {ix : Nat} {stk : List th_V} {t i ci N : Nat} {Cn : String} {T : u_T} {ty : Nat → FieldType} {P : Prop} {X : String → Prop} (C : th_C l z cc nL own rm ret tb) (hM : th_F l y cy mL rety rmy (.inr (some (t, i)) :: as) (th_m I) (th_rt I P X)) (ok : th_okV own ix Cn y cy mL rety as.length) (K : th_cl t ci Cn T N ty) (hi : i < th_cn t) (hrm : th_okR rmy rm mL kc ks = true) (hst : st.length ≤ 8) (hd : decode cc pc = .ok (.invokevirtual ix, 3)) (hstk : as.reverse ++ .inr (some (t, i)) :: st = stk)
    (kx : ∀ E, X E → th_X l z nL pc lv E (th_m I) (kc + rmy.cells) (ks + rmy.slots)) (k : P → th_G l z nL (pc + 3) lv st (th_m I) (kc + rmy.cells) (ks + rmy.slots)) : th_G l z nL pc lv stk (th_m I) kc ks := by
  refine th_callV (mu := th_m I) C hM ok hrm hi K.1 K.2.1 hst hd hstk (fun E mu' h => ?_) (fun v mu' h => ?_)
  · rcases h with ⟨q, -⟩ | ⟨E', q, rfl, h⟩
    · cases q
    · cases q
      exact kx E h
  · rcases h with ⟨q, rfl, h⟩ | ⟨E', q, -⟩
    · cases q
      exact k h
    · cases q
theorem tq_callVm {y : MethodName} {cy : ByteArray} {mL : Nat} {rety : Option FieldType} {rmy : Room} {as : List th_V} {ix : Nat} {stk : List th_V} {t i ci N : Nat} {Cn : String} {T : u_T} {ty : Nat → FieldType} {P : Int32 → th_I → Prop} {X : String → th_I → Prop} (C : th_C l z cc nL own rm ret tb) (hM : th_F l y cy mL rety rmy (.inr (some (t, i)) :: as) (th_m I) (th_rm P X)) (ok : th_okV own ix Cn y cy mL rety as.length) (K : th_cl t ci Cn T N ty) (hi : i < th_cn t) (hrm : th_okR rmy rm mL kc ks = true) (hst : st.length ≤ 8) (hd : decode cc pc = .ok (.invokevirtual ix, 3)) (hstk : as.reverse ++ .inr (some (t, i)) :: st = stk)
    (kx : ∀ E J, X E J → th_X l z nL pc lv E (th_m J) (kc + rmy.cells) (ks + rmy.slots)) (k : ∀ (x : Int32) (J : th_I), P x J → th_G l z nL (pc + 3) lv (.inl x :: st) (th_m J) (kc + rmy.cells) (ks + rmy.slots)) : th_G l z nL pc lv stk (th_m I) kc ks := by
  refine th_callV (mu := th_m I) C hM ok hrm hi K.1 K.2.1 hst hd hstk (fun E mu' h => ?_) (fun v mu' h => ?_)
  · rcases h with ⟨x, J, q, -⟩ | ⟨E', J, q, rfl, h⟩
    · cases q
    · cases q
      exact kx E J h
  · rcases h with ⟨x, J, q, rfl, h⟩ | ⟨E', J, q, -⟩
    · cases q
      exact k x J h
    · cases q
theorem tq_callSp {y : MethodName} {cy : ByteArray} {mL : Nat} {rety : Option FieldType} {rmy : Room} {as : List th_V} {ix : Nat} {stk : List th_V} {P : Int32 → Prop} (C : th_C l z cc nL own rm ret tb) (hM : th_F l y cy mL rety rmy as (th_m I) (th_rp I P)) (ok : th_okS own ix y cy mL rety as.length) (hrm : th_okR rmy rm mL kc ks = true) (hst : st.length ≤ 8) (hd : decode cc pc = .ok (.invokestatic ix, 3)) (hstk : as.reverse ++ st = stk)
    (k : ∀ x : Int32, P x → th_G l z nL (pc + 3) lv (.inl x :: st) (th_m I) (kc + rmy.cells) (ks + rmy.slots)) : th_G l z nL pc lv stk (th_m I) kc ks := by
  refine th_callS (mu := th_m I) C hM ok hrm hst hd hstk (fun E mu' h => by obtain ⟨x, q, -⟩ := h; cases q) (fun v mu' h => ?_)
  obtain ⟨x, q, rfl, h⟩ := h
  cases q
  exact k x h
theorem tq_callSv {y : MethodName} {cy : ByteArray} {mL : Nat} {rety : Option FieldType} {rmy : Room} {as : List th_V} {ix : Nat} {stk : List th_V} {P : th_I → Prop} (C : th_C l z cc nL own rm ret tb) (hM : th_F l y cy mL rety rmy as (th_m I) (th_rv P)) (ok : th_okS own ix y cy mL rety as.length) (hrm : th_okR rmy rm mL kc ks = true) (hst : st.length ≤ 8) (hd : decode cc pc = .ok (.invokestatic ix, 3)) (hstk : as.reverse ++ st = stk)
    (k : ∀ J, P J → th_G l z nL (pc + 3) lv st (th_m J) (kc + rmy.cells) (ks + rmy.slots)) : th_G l z nL pc lv stk (th_m I) kc ks := by
  refine th_callS (mu := th_m I) C hM ok hrm hst hd hstk (fun E mu' h => by obtain ⟨J, q, -⟩ := h; cases q) (fun v mu' h => ?_)
  obtain ⟨J, q, rfl, h⟩ := h
  cases q
  exact k J h
theorem tq_callSi {y : MethodName} {cy : ByteArray} {mL : Nat} {rety : Option FieldType} {rmy : Room} {as : List th_V} {ix : Nat} {stk : List th_V} {P : Int32 → th_I → Prop} (C : th_C l z cc nL own rm ret tb) (hM : th_F l y cy mL rety rmy as (th_m I) (th_ri P)) (ok : th_okS own ix y cy mL rety as.length) (hrm : th_okR rmy rm mL kc ks = true) (hst : st.length ≤ 8) (hd : decode cc pc = .ok (.invokestatic ix, 3)) (hstk : as.reverse ++ st = stk)
    (k : ∀ (x : Int32) (J : th_I), P x J → th_G l z nL (pc + 3) lv (.inl x :: st) (th_m J) (kc + rmy.cells) (ks + rmy.slots)) : th_G l z nL pc lv stk (th_m I) kc ks := by
  refine th_callS (mu := th_m I) C hM ok hrm hst hd hstk (fun E mu' h => by obtain ⟨x, J, q, -⟩ := h; cases q) (fun v mu' h => ?_)
  obtain ⟨x, J, q, rfl, h⟩ := h
  cases q
  exact k x J h
theorem tq_callSt {y : MethodName} {cy : ByteArray} {mL : Nat} {rety : Option FieldType} {rmy : Room} {as : List th_V} {ix : Nat} {stk : List th_V} {P : Prop} {X : String → Prop} (C : th_C l z cc nL own rm ret tb) (hM : th_F l y cy mL rety rmy as (th_m I) (th_rt I P X)) (ok : th_okS own ix y cy mL rety as.length) (hrm : th_okR rmy rm mL kc ks = true) (hst : st.length ≤ 8) (hd : decode cc pc = .ok (.invokestatic ix, 3)) (hstk : as.reverse ++ st = stk)
    (kx : ∀ E, X E → th_X l z nL pc lv E (th_m I) (kc + rmy.cells) (ks + rmy.slots)) (k : P → th_G l z nL (pc + 3) lv st (th_m I) (kc + rmy.cells) (ks + rmy.slots)) : th_G l z nL pc lv stk (th_m I) kc ks := by
  refine th_callS (mu := th_m I) C hM ok hrm hst hd hstk (fun E mu' h => ?_) (fun v mu' h => ?_)
  · rcases h with ⟨q, -⟩ | ⟨E', q, rfl, h⟩
    · cases q
    · cases q
      exact kx E h
  · rcases h with ⟨q, rfl, h⟩ | ⟨E', q, -⟩
    · cases q
      exact k h
    · cases q
theorem tq_callSm {y : MethodName} {cy : ByteArray} {mL : Nat} {rety : Option FieldType} {rmy : Room} {as : List th_V} {ix : Nat} {stk : List th_V} {P : Int32 → th_I → Prop} {X : String → th_I → Prop} (C : th_C l z cc nL own rm ret tb) (hM : th_F l y cy mL rety rmy as (th_m I) (th_rm P X)) (ok : th_okS own ix y cy mL rety as.length) (hrm : th_okR rmy rm mL kc ks = true) (hst : st.length ≤ 8) (hd : decode cc pc = .ok (.invokestatic ix, 3)) (hstk : as.reverse ++ st = stk)
    (kx : ∀ E J, X E J → th_X l z nL pc lv E (th_m J) (kc + rmy.cells) (ks + rmy.slots)) (k : ∀ (x : Int32) (J : th_I), P x J → th_G l z nL (pc + 3) lv (.inl x :: st) (th_m J) (kc + rmy.cells) (ks + rmy.slots)) : th_G l z nL pc lv stk (th_m I) kc ks := by
  refine th_callS (mu := th_m I) C hM ok hrm hst hd hstk (fun E mu' h => ?_) (fun v mu' h => ?_)
  · rcases h with ⟨x, J, q, -⟩ | ⟨E', J, q, rfl, h⟩
    · cases q
    · cases q
      exact kx E J h
  · rcases h with ⟨x, J, q, rfl, h⟩ | ⟨E', J, q, -⟩
    · cases q
      exact k x J h
    · cases q
end TQ
