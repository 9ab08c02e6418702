/-! ===== the abstract memory: a cell's name is (tag, number); ints, references, lengths; how many cells of a tag there are ===== -/
abbrev th_V : Type := Int32 ⊕ Option (Nat × Nat)
abbrev th_I : Type := Nat → Nat → Nat → Int32
abbrev th_R : Type := Nat → Nat → Nat → Option (Nat × Nat)
abbrev th_M : Type := (Nat → Nat) × th_I × th_R × (Nat → Nat → Nat) × Nat
abbrev th_A : Type := Nat → Nat → Nat
def th_IAE : String := "java/lang/IllegalArgumentException"
def th_ISE : String := "java/lang/IllegalStateException"
def th_IOB : String := "java/lang/IndexOutOfBoundsException"
def th_lp (j : Nat) : Nat := if j % 2 = 0 then 12 else 4
def th_Cl : List vw_C := [(rn_M, tf_M, 3), (rn_Q, tf_Q, 3), (rn_P, tf_P, 4), (rn_R, tf_R, 2), (rn_S, tf_S, 18), (rn_H, tf_H, 12), (rn_O, tf_O, 36)]
/-- a tag's kind: an object of the list th_Cl, an array of ints (or truth values), of references, of longs; array types by number -/
def th_kd : Nat → Nat × Nat
  | 0 => (0, 5)
  | 1 => (2, 2)
  | 2 => (2, 3)
  | 3 => (2, 4)
  | 6 => (0, 4)
  | 7 => (0, 2)
  | 11 => (0, 1)
  | 14 => (0, 3)
  | 16 => (0, 0)
  | 17 => (3, 5)
  | 20 => (0, 6)
  | 42 => (1, 1)
  | 43 => (1, 1)
  | _ => (1, 0)
def th_ty (cA : Nat → ClassId) : List (ClassId × FieldType) := [(cA 0, .int), (cA 1, .boolean), (cA 2, .object "ThreadHall$Strand"), (cA 3, .object "ThreadHall$Mutex"), (cA 4, .object "ThreadHall$Row"), (cA 5, .long)]
/-- how many cells a tag has, when all is made -/
def th_cn : Nat → Nat
  | 6 => 5
  | 7 => 5
  | 8 => 5
  | 9 => 5
  | 10 => 5
  | 11 => 10
  | 12 => 10
  | 13 => 10
  | 14 => 11
  | 15 => 11
  | 16 => 3
  | 18 => 0
  | 19 => 0
  | t => if t < 54 then 1 else 0
/-- which slots hold references -/
def th_fr : Nat → Nat → Bool
  | 0, k => Nat.blt k 5
  | 6, k => Nat.blt 0 k && Nat.blt k 5
  | 7, k => Nat.blt k 3
  | 11, k => Nat.blt k 2
  | 14, k => Nat.blt k 1
  | 16, k => Nat.blt k 1
  | 20, k => Nat.blt k 33
  | _, _ => false
def th_P0 : Nat → Nat → Nat → Option (Nat × Nat)
  | 0, _, k => some (k + 1, 0)
  | 1, _, k => some (6, k)
  | 2, _, k => some (16, k)
  | 3, _, k => some (14, 8 + k)
  | 6, i, 1 => some (7, i)
  | 6, i, 2 => some (11, 2 * i)
  | 6, i, 3 => some (11, 2 * i + 1)
  | 6, i, _ => some (14, i)
  | 7, i, k => some (8 + k, i)
  | 11, i, k => some (12 + k, i)
  | 14, i, _ => some (15, i)
  | 16, i, _ => some (14, 5 + i)
  | 20, _, k => some (21 + k, 0)
  | _, _, _ => none
def th_L0 : Nat → Nat → Nat
  | 1, _ => 5
  | 2, _ => 3
  | 3, _ => 3
  | 4, _ => 4
  | 5, _ => 40
  | 8, _ => 24
  | 9, _ => 24
  | 10, _ => 24
  | 12, j => th_lp j
  | 13, j => th_lp j
  | 15, _ => 5
  | 17, _ => 1
  | 21, _ => 120
  | 22, _ => 120
  | 23, _ => 120
  | 24, _ => 5
  | 25, _ => 4
  | 26, _ => 60
  | 27, _ => 60
  | 28, _ => 5
  | 29, _ => 20
  | 30, _ => 20
  | 31, _ => 5
  | 32, _ => 5
  | 33, _ => 5
  | 34, _ => 5
  | 35, _ => 5
  | 36, _ => 5
  | 37, _ => 5
  | 38, _ => 5
  | 39, _ => 5
  | 40, _ => 5
  | 41, _ => 5
  | 42, _ => 5
  | 43, _ => 5
  | 44, _ => 3
  | 45, _ => 3
  | 46, _ => 15
  | 47, _ => 3
  | 48, _ => 15
  | 49, _ => 3
  | 50, _ => 25
  | 51, _ => 5
  | 52, _ => 40
  | 53, _ => 8
  | _, _ => 0
/-- where a cell lies behind the first one: the order of making -/
def th_ad : Nat → Nat → Nat
  | 0, _ => 0
  | 1, _ => 1
  | 6, i => 2 + 13 * i
  | 7, i => 3 + 13 * i
  | 8, i => 4 + 13 * i
  | 9, i => 5 + 13 * i
  | 10, i => 6 + 13 * i
  | 11, j => 7 + 13 * (j / 2) + 3 * (j % 2)
  | 12, j => 8 + 13 * (j / 2) + 3 * (j % 2)
  | 13, j => 9 + 13 * (j / 2) + 3 * (j % 2)
  | 14, r => if r < 5 then 13 + 13 * r else if r < 8 then 69 + 3 * (r - 5) else 78 + 2 * (r - 8)
  | 15, r => if r < 5 then 14 + 13 * r else if r < 8 then 70 + 3 * (r - 5) else 79 + 2 * (r - 8)
  | 2, _ => 67
  | 16, m => 68 + 3 * m
  | 3, _ => 77
  | 4, _ => 84
  | 5, _ => 85
  | 17, _ => 120
  | t, _ => 66 + t
abbrev th_m (I : th_I) : th_M := (th_cn, I, th_P0, th_L0, 0)
def th_s91 : String × String × Nat × List Int32 := ("ThreadHall", "FIRST_VALUES", 91, [4, 4, 4, 4, 4, 3, 3, 3, 3, 3, 3, 5, 5, 5, 25, 4, 25, 4, 4, 4, 0])
def th_s92 : String × String × Nat × List Int32 := ("ThreadHall", "SECOND_VALUES", 92, [0, 0, 4, 0, 0, 0, 0, 4, 3, 0, 0, 0, 4, 0, 0, 0, 0, 25, 0, 0, 0])
def th_SA : List (String × String × Nat × List Int32) := [th_s91, th_s92]
theorem th_s91_in : th_s91 ∈ th_SA := List.mem_cons_self
theorem th_s92_in : th_s92 ∈ th_SA := List.mem_cons_of_mem _ List.mem_cons_self
def th_AO : List String := ["ThreadHall$Strand", "ThreadHall$Mutex", "ThreadHall$Row"]
def th_NC : List (String × String) := [(th_ISE, th_IAE), (th_IOB, th_IAE), (th_IOB, th_ISE)]
def th_nk : Cond → Bool
  | .castable _ _ => true
  | .declares _ => true
  | .methodLinkNest _ _ _ _ => true
  | _ => false
def th_B : List Cond := lw_tbl.filter goodWord
def th_NB : List Cond := lw_tbl.filter th_nk
theorem th_nw_moved {w : Cond} {s U : State} (hk : th_nk w = true) (hW : s.WarmedH U.vm) (h : va_Nw w s) : va_Nw w U := by
  cases w <;> first | (exact va_Nw.warmC hW h) | (exact va_Nw.warmD hW h) | (exact va_Nw.warmM hW h) | (exact absurd hk (by decide)) | (exact absurd hk Bool.false_ne_true)
theorem th_nk_ot {w : Cond} (hk : th_nk w = true) : w.onTables = true := by
  cases w <;> first | rfl | (exact absurd hk Bool.false_ne_true)
/-- what holds of statics and tables in every frame -/
def th_S (base : Nat) (al : th_A) (U : State) (H : Heap) : Prop :=
  (vx_Zq Bundle.tN "UNASSIGNED_STACK" Bundle.steD (fun q => base ≤ q) U H ∧ vx_Zq Bundle.tN "SUPPRESSED_SENTINEL" Bundle.listD (fun q => base ≤ q) U H ∧ ∀ c ∈ th_AO, va_AO c U) ∧ (∀ w ∈ th_NB, va_Nw w U) ∧ (∀ q ∈ th_NC, va_Nc q.1 q.2 U) ∧
    ∀ q ∈ th_SA, va_Z q.1 q.2.1 "[I" (.ref (al q.2.2.1 0)) (fun q => base ≤ q) U H ∧ va_X (al q.2.2.1 0) q.2.2.2.length (fun k => q.2.2.2.getD k 0) U H ∧ ¬ base ≤ al q.2.2.1 0
theorem th_X_moved {b L : Nat} {xs : Nat → Int32} {s U : State} {H : Heap} (hvm : s.vm.Alike U.vm) (h : va_X b L xs s H) : va_X b L xs U H := by
  obtain ⟨scr, h1, h2, h3⟩ := h
  exact ⟨scr, h1, State.isArrayOf_alike hvm h2, h3⟩
theorem th_S_moved {base : Nat} {al : th_A} {u U : State} {H : Heap} (hW : u.WarmedH U.vm) (h : th_S base al u H) : th_S base al U H := by
  obtain ⟨⟨a, b, g⟩, d, e, f⟩ := h
  exact ⟨⟨vx_Zq.moved hW.alike a, vx_Zq.moved hW.alike b, fun c hc => va_AO.moved hW.alike (g c hc)⟩, fun w hw => th_nw_moved (List.mem_filter.mp hw).2 hW (d w hw), fun q hq => va_Nc.moved hW.alike (e q hq), fun q hq => ⟨va_Z.moved hW.alike (f q hq).1, th_X_moved hW.alike (f q hq).2.1, (f q hq).2.2⟩⟩
theorem th_S_kept {base : Nat} {al : th_A} {s : State} {H : Heap} (h : th_S base al s s.heap) (hq : ∀ a : Nat, a < s.heap.size → ¬ base ≤ a → H[a]? = s.heap[a]?) : th_S base al s H := by
  obtain ⟨⟨a, b, g⟩, d, e, f⟩ := h
  refine ⟨⟨vx_Zq.kept a hq, vx_Zq.kept b hq, g⟩, d, e, fun q hq1 => ⟨va_Z.kept (f q hq1).1 hq, ?_, (f q hq1).2.2⟩⟩
  obtain ⟨scr, h1, h2, h3⟩ := (f q hq1).2.1
  exact ⟨scr, by rw [hq _ (Array.getElem?_eq_some_iff.mp h1).1 (f q hq1).2.2]; exact h1, h2, h3⟩
theorem th_S_nw {base : Nat} {al : th_A} {U : State} {H : Heap} (h : th_S base al U H) (w : Cond) (hw : w ∈ th_NB) : va_Nw w U := h.2.1 w hw
