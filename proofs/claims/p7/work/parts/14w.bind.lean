set_option maxRecDepth 100000 in
set_option maxHeartbeats 4000000 in
theorem o_O_bind (l : Launch) (hl : l.stackTraces = false) {K sl : Int} {Z : th_I} (I : th_I) (t : Int32) (s : Int32) (v : Int32) (tn : Nat) (hI : th_OI K sl Z I) (htn : (tn : Int) = t.toInt) (ht : 0 ≤ t.toInt ∧ t.toInt ≤ 4) (hs : (I 32 0 tn).toInt = 1) : th_F l yn_O_bind cb_O_bind 4 none { frames := 4, cells := 0, slots := 0, locals := 93 } [.inr (some (20, 0)), .inl t, .inl s, .inl v] (th_m I) (th_rv (fun J => th_OI K sl Z J ∧ (True))) := by
  refine th_of hl (by decide +kernel) (Nat.le_of_ble_eq_true rfl) (fun z C hQ hN => ?_)
  show th_G l z 4 0 [(0, .inr (some (20, 0))), (1, .inl t), (2, .inl s), (3, .inl v)] [] (th_m I) 0 0
  have hb := hI.2.2.1
  refine th_aload_n C dc_O_bind_0 rfl rfl ?_
  refine tq_getR C dc_O_bind_1 cl_20 fd_O_31 rfl (show 0 < 1 from by omega) rfl ?_
  refine th_iload_n C dc_O_bind_4 rfl rfl ?_
  refine tq_ialdN C dc_O_bind_5 rfl (fun _ => rfl) (show 0 < 1 from by omega) rfl htn (show tn < 5 from by omega) (fun x1 e1 => ?_)
  have g1 : x1.toInt = (I 28 0 tn).toInt := by rw [e1]
  have r1 : 0 ≤ x1.toInt ∧ x1.toInt ≤ 12 := by rw [e1]; exact hI.1 28 0 tn
  refine th_bipush (v := 12) C dc_O_bind_6 th_b_12 ?_
  refine tq_icmp_ne (tgt := 18) C dc_O_bind_8 (by decide) rfl th_l_12 (fun c2 => ?_) (fun c2 => ?_)
  · refine th_aload_n C dc_O_bind_18 rfl rfl ?_
    refine tq_getR C dc_O_bind_19 cl_20 fd_O_25 rfl (show 0 < 1 from by omega) rfl ?_
    refine th_bipush (v := 12) C dc_O_bind_22 th_b_12 ?_
    refine th_iload_n C dc_O_bind_24 rfl rfl ?_
    refine tq_imul C dc_O_bind_25 th_l_12 rfl (fun x3 e3 a3 => ?_)
    refine th_aload_n C dc_O_bind_26 rfl rfl ?_
    refine tq_getR C dc_O_bind_27 cl_20 fd_O_31 rfl (show 0 < 1 from by omega) rfl ?_
    refine th_iload_n C dc_O_bind_30 rfl rfl ?_
    refine tq_ialdE C dc_O_bind_31 rfl (fun _ => rfl) (show 0 < 1 from by omega) rfl htn (show tn < 5 from by omega) e1 ?_
    refine tq_iadd C dc_O_bind_32 rfl rfl (fun x5 e5 a5 => ?_)
    refine th_iload_n C dc_O_bind_33 rfl rfl ?_
    obtain ⟨n6, m6⟩ := th_nat (a := x5.toInt) (by omega)
    refine tq_iastN C dc_O_bind_34 rfl (fun _ => rfl) (show 0 < 1 from by omega) rfl m6 (show n6 < 60 from by omega) ?_
    refine th_gen (P := fun J => th_OI K sl Z J ∧ J = th_u I 26 0 n6 s) ⟨ro_put hI rfl trivial, rfl⟩ (fun I7 hI7 => ?_)
    obtain ⟨hI7, u7⟩ := hI7
    have e8 : x1 = I7 28 0 tn := by rw [u7, th_u_tag (by decide)]; exact e1
    have g8 : x1.toInt = (I7 28 0 tn).toInt := by rw [← e8]
    have e7 : s = I7 26 0 n6 := by rw [u7, th_u_eq]
    have g7 : s.toInt = (I7 26 0 n6).toInt := by rw [← e7]
    refine th_aload_n C dc_O_bind_35 rfl rfl ?_
    refine tq_getR C dc_O_bind_36 cl_20 fd_O_28 rfl (show 0 < 1 from by omega) rfl ?_
    refine th_bipush (v := 12) C dc_O_bind_39 th_b_12 ?_
    refine th_iload_n C dc_O_bind_41 rfl rfl ?_
    refine tq_imul C dc_O_bind_42 th_l_12 rfl (fun x9 e9 a9 => ?_)
    refine th_aload_n C dc_O_bind_43 rfl rfl ?_
    refine tq_getR C dc_O_bind_44 cl_20 fd_O_31 rfl (show 0 < 1 from by omega) rfl ?_
    refine th_iload_n C dc_O_bind_47 rfl rfl ?_
    refine th_dup2 C dc_O_bind_48 ?_
    refine tq_ialdE C dc_O_bind_49 rfl (fun _ => rfl) (show 0 < 1 from by omega) rfl htn (show tn < 5 from by omega) e8 ?_
    refine th_dup_x2 C dc_O_bind_50 ?_
    refine th_iconst (v := 1) C dc_O_bind_51 th_c_1 ?_
    refine tq_iadd C dc_O_bind_52 rfl th_l_1 (fun x11 e11 a11 => ?_)
    refine tq_iastN C dc_O_bind_53 rfl (fun _ => rfl) (show 0 < 1 from by omega) rfl htn (show tn < 5 from by omega) ?_
    refine th_gen (P := fun J => th_OI K sl Z J ∧ J = th_u I7 28 0 tn x11) ⟨ro_put hI7 rfl (show 0 ≤ x11.toInt ∧ x11.toInt ≤ 12 from by omega), rfl⟩ (fun I12 hI12 => ?_)
    obtain ⟨hI12, u12⟩ := hI12
    have e13 : s = I12 26 0 n6 := by rw [u12, th_u_tag (by decide)]; exact e7
    have g13 : s.toInt = (I12 26 0 n6).toInt := by rw [← e13]
    have e12 : x11 = I12 28 0 tn := by rw [u12, th_u_eq]
    have g12 : x11.toInt = (I12 28 0 tn).toInt := by rw [← e12]
    refine tq_iadd C dc_O_bind_54 rfl rfl (fun x14 e14 a14 => ?_)
    refine th_iload_n C dc_O_bind_55 rfl rfl ?_
    obtain ⟨n15, m15⟩ := th_nat (a := x14.toInt) (by omega)
    refine tq_iastN C dc_O_bind_56 rfl (fun _ => rfl) (show 0 < 1 from by omega) rfl m15 (show n15 < 60 from by omega) ?_
    refine th_gen (P := fun J => th_OI K sl Z J ∧ J = th_u I12 27 0 n15 v) ⟨ro_put hI12 rfl trivial, rfl⟩ (fun I16 hI16 => ?_)
    obtain ⟨hI16, u16⟩ := hI16
    have e17 : s = I16 26 0 n6 := by rw [u16, th_u_tag (by decide)]; exact e13
    have g17 : s.toInt = (I16 26 0 n6).toInt := by rw [← e17]
    have e18 : x11 = I16 28 0 tn := by rw [u16, th_u_tag (by decide)]; exact e12
    have g18 : x11.toInt = (I16 28 0 tn).toInt := by rw [← e18]
    have e16 : v = I16 27 0 n15 := by rw [u16, th_u_eq]
    have g16 : v.toInt = (I16 27 0 n15).toInt := by rw [← e16]
    exact th_vret C hQ dc_O_bind_57 (by decide) (by decide) ⟨_, rfl, rfl, hI16, trivial⟩
  · refine th_aload_n C dc_O_bind_11 rfl rfl ?_
    refine th_iload_n C dc_O_bind_12 rfl rfl ?_
    refine th_iconst (v := 1) C dc_O_bind_13 th_c_1 ?_
    refine tq_callVv C (o_O_error l hl I t ((1 : Int32)) tn hI htn (by have := th_l_1; omega) (by have := th_l_1; omega)) ok_O_160 cl_20 (show 0 < 1 from by omega) rfl (Nat.le_of_ble_eq_true rfl) dc_O_bind_14 rfl (fun I19 p19 => ?_)
    obtain ⟨hI19, p19⟩ := p19
    try simp only [th_l_1] at p19
    exact th_vret C hQ dc_O_bind_17 (by decide) (by decide) ⟨_, rfl, rfl, hI19, trivial⟩

set_option maxRecDepth 100000 in
set_option maxHeartbeats 4000000 in
theorem o_O_unbind (l : Launch) (hl : l.stackTraces = false) {K sl : Int} {Z : th_I} (I : th_I) (t : Int32) (s : Int32) (tn : Nat) (hI : th_OI K sl Z I) (htn : (tn : Int) = t.toInt) (ht : 0 ≤ t.toInt ∧ t.toInt ≤ 4) (hs : (I 32 0 tn).toInt = 1) : th_F l yn_O_unbind cb_O_unbind 4 none { frames := 4, cells := 0, slots := 0, locals := 93 } [.inr (some (20, 0)), .inl t, .inl s] (th_m I) (th_rv (fun J => th_OI K sl Z J ∧ (True))) := by
  refine th_of hl (by decide +kernel) (Nat.le_of_ble_eq_true rfl) (fun z C hQ hN => ?_)
  show th_G l z 4 0 [(0, .inr (some (20, 0))), (1, .inl t), (2, .inl s)] [] (th_m I) 0 0
  have hb := hI.2.2.1
  refine th_aload_n C dc_O_unbind_0 rfl rfl ?_
  refine th_iload_n C dc_O_unbind_1 rfl rfl ?_
  refine th_iload_n C dc_O_unbind_2 rfl rfl ?_
  refine tq_callVp C (o_O_bound l hl I t s tn hI htn (by omega)) ok_O_132 cl_20 (show 0 < 1 from by omega) rfl (Nat.le_of_ble_eq_true rfl) dc_O_unbind_3 rfl (fun x1 p1 => ?_)
  refine th_istore_n (lv' := [(0, .inr (some (20, 0))), (1, .inl t), (2, .inl s), (3, .inl x1)]) C dc_O_unbind_6 rfl (by decide) rfl ?_
  refine th_iload_n C dc_O_unbind_7 rfl rfl ?_
  refine tq_if_ge (tgt := 18) C dc_O_unbind_8 (by decide) rfl (fun c2 => ?_) (fun c2 => ?_)
  · refine th_aload_n C dc_O_unbind_18 rfl rfl ?_
    refine tq_getR C dc_O_unbind_19 cl_20 fd_O_31 rfl (show 0 < 1 from by omega) rfl ?_
    refine th_iload_n C dc_O_unbind_22 rfl rfl ?_
    refine th_dup2 C dc_O_unbind_23 ?_
    refine tq_ialdN C dc_O_unbind_24 rfl (fun _ => rfl) (show 0 < 1 from by omega) rfl htn (show tn < 5 from by omega) (fun x3 e3 => ?_)
    have g3 : x3.toInt = (I 28 0 tn).toInt := by rw [e3]
    have r3 : 0 ≤ x3.toInt ∧ x3.toInt ≤ 12 := by rw [e3]; exact hI.1 28 0 tn
    refine th_iconst (v := 1) C dc_O_unbind_25 th_c_1 ?_
    refine tq_isub C dc_O_unbind_26 rfl th_l_1 (fun x4 e4 a4 => ?_)
    refine tq_iastN C dc_O_unbind_27 rfl (fun _ => rfl) (show 0 < 1 from by omega) rfl htn (show tn < 5 from by omega) ?_
    refine th_gen (P := fun J => th_OI K sl Z J ∧ J = th_u I 28 0 tn x4) ⟨ro_put hI rfl (show 0 ≤ x4.toInt ∧ x4.toInt ≤ 12 from by omega), rfl⟩ (fun I5 hI5 => ?_)
    obtain ⟨hI5, u5⟩ := hI5
    have e5 : x4 = I5 28 0 tn := by rw [u5, th_u_eq]
    have g5 : x4.toInt = (I5 28 0 tn).toInt := by rw [← e5]
    have L28 : ∀ (N : Nat) (k : Int32) (I6 : th_I), (th_OI K sl Z I6) → (0 ≤ k.toInt ∧ k.toInt ≤ 59 ∧ (I6 28 0 tn).toInt ≤ 11) → (60 - k.toInt).toNat < N → th_G l z 4 28 [(0, .inr (some (20, 0))), (1, .inl t), (2, .inl s), (3, .inl k)] [] (th_m I6) 0 0 := by
      intro N
      induction N with
      | zero => intro k I6 hI6 h1 hm; exact absurd hm (Nat.not_lt_zero _)
      | succ N ih =>
        intro k I6 hI6 h1 hm
        refine th_iload_n C dc_O_unbind_28 rfl rfl ?_
        refine th_bipush (v := 12) C dc_O_unbind_29 th_b_12 ?_
        refine th_iload_n C dc_O_unbind_31 rfl rfl ?_
        refine tq_imul C dc_O_unbind_32 th_l_12 rfl (fun x7 e7 a7 => ?_)
        refine th_aload_n C dc_O_unbind_33 rfl rfl ?_
        refine tq_getR C dc_O_unbind_34 cl_20 fd_O_31 rfl (show 0 < 1 from by omega) rfl ?_
        refine th_iload_n C dc_O_unbind_37 rfl rfl ?_
        refine tq_ialdN C dc_O_unbind_38 rfl (fun _ => rfl) (show 0 < 1 from by omega) rfl htn (show tn < 5 from by omega) (fun x8 e8 => ?_)
        have g8 : x8.toInt = (I6 28 0 tn).toInt := by rw [e8]
        have r8 : 0 ≤ x8.toInt ∧ x8.toInt ≤ 12 := by rw [e8]; exact hI6.1 28 0 tn
        refine tq_iadd C dc_O_unbind_39 rfl rfl (fun x9 e9 a9 => ?_)
        refine tq_icmp_ge (tgt := 77) C dc_O_unbind_40 (by decide) rfl rfl (fun c10 => ?_) (fun c10 => ?_)
        · exact th_vret C hQ dc_O_unbind_77 (by decide) (by decide) ⟨_, rfl, rfl, hI6, trivial⟩
        · refine th_aload_n C dc_O_unbind_43 rfl rfl ?_
          refine tq_getR C dc_O_unbind_44 cl_20 fd_O_25 rfl (show 0 < 1 from by omega) rfl ?_
          refine th_iload_n C dc_O_unbind_47 rfl rfl ?_
          refine th_aload_n C dc_O_unbind_48 rfl rfl ?_
          refine tq_getR C dc_O_unbind_49 cl_20 fd_O_25 rfl (show 0 < 1 from by omega) rfl ?_
          refine th_iload_n C dc_O_unbind_52 rfl rfl ?_
          refine th_iconst (v := 1) C dc_O_unbind_53 th_c_1 ?_
          refine tq_iadd C dc_O_unbind_54 rfl th_l_1 (fun x11 e11 a11 => ?_)
          obtain ⟨n13, m13⟩ := th_nat (a := x11.toInt) (by omega)
          refine tq_ialdN C dc_O_unbind_55 rfl (fun _ => rfl) (show 0 < 1 from by omega) rfl m13 (show n13 < 60 from by omega) (fun x12 e12 => ?_)
          have g12 : x12.toInt = (I6 26 0 n13).toInt := by rw [e12]
          obtain ⟨n14, m14⟩ := th_nat (a := k.toInt) (by omega)
          refine tq_iastN C dc_O_unbind_56 rfl (fun _ => rfl) (show 0 < 1 from by omega) rfl m14 (show n14 < 60 from by omega) ?_
          refine th_gen (P := fun J => th_OI K sl Z J ∧ J = th_u I6 26 0 n14 x12) ⟨ro_put hI6 rfl trivial, rfl⟩ (fun I15 hI15 => ?_)
          obtain ⟨hI15, u15⟩ := hI15
          have e16 : x8 = I15 28 0 tn := by rw [u15, th_u_tag (by decide)]; exact e8
          have g16 : x8.toInt = (I15 28 0 tn).toInt := by rw [← e16]
          have e15 : x12 = I15 26 0 n14 := by rw [u15, th_u_eq]
          have g15 : x12.toInt = (I15 26 0 n14).toInt := by rw [← e15]
          refine th_aload_n C dc_O_unbind_57 rfl rfl ?_
          refine tq_getR C dc_O_unbind_58 cl_20 fd_O_28 rfl (show 0 < 1 from by omega) rfl ?_
          refine th_iload_n C dc_O_unbind_61 rfl rfl ?_
          refine th_aload_n C dc_O_unbind_62 rfl rfl ?_
          refine tq_getR C dc_O_unbind_63 cl_20 fd_O_28 rfl (show 0 < 1 from by omega) rfl ?_
          refine th_iload_n C dc_O_unbind_66 rfl rfl ?_
          refine th_iconst (v := 1) C dc_O_unbind_67 th_c_1 ?_
          refine tq_iadd C dc_O_unbind_68 rfl th_l_1 (fun x17 e17 a17 => ?_)
          obtain ⟨n19, m19⟩ := th_nat (a := x17.toInt) (by omega)
          refine tq_ialdN C dc_O_unbind_69 rfl (fun _ => rfl) (show 0 < 1 from by omega) rfl m19 (show n19 < 60 from by omega) (fun x18 e18 => ?_)
          have g18 : x18.toInt = (I15 27 0 n19).toInt := by rw [e18]
          refine tq_iastN C dc_O_unbind_70 rfl (fun _ => rfl) (show 0 < 1 from by omega) rfl m14 (show n14 < 60 from by omega) ?_
          refine th_gen (P := fun J => th_OI K sl Z J ∧ J = th_u I15 27 0 n14 x18) ⟨ro_put hI15 rfl trivial, rfl⟩ (fun I20 hI20 => ?_)
          obtain ⟨hI20, u20⟩ := hI20
          have e21 : x8 = I20 28 0 tn := by rw [u20, th_u_tag (by decide)]; exact e16
          have g21 : x8.toInt = (I20 28 0 tn).toInt := by rw [← e21]
          have e22 : x12 = I20 26 0 n14 := by rw [u20, th_u_tag (by decide)]; exact e15
          have g22 : x12.toInt = (I20 26 0 n14).toInt := by rw [← e22]
          have e20 : x18 = I20 27 0 n14 := by rw [u20, th_u_eq]
          have g20 : x18.toInt = (I20 27 0 n14).toInt := by rw [← e20]
          refine tq_iinc (lv' := fun rr => [(0, .inr (some (20, 0))), (1, .inl t), (2, .inl s), (3, .inl rr)]) C dc_O_unbind_71 rfl (by decide) th_c_1 rfl th_l_1 (fun rr => rfl) (fun x23 e23 a23 => ?_)
          refine th_goto (tgt := 28) C dc_O_unbind_74 (by decide) ?_
          exact ih x23 I20 hI20 (by omega) (by omega)
    exact L28 _ x1 I5 hI5 (by omega) (Nat.lt_succ_self _)
  · refine th_aload_n C dc_O_unbind_11 rfl rfl ?_
    refine th_iload_n C dc_O_unbind_12 rfl rfl ?_
    refine th_iconst (v := 2) C dc_O_unbind_13 th_c_2 ?_
    refine tq_callVv C (o_O_error l hl I t ((2 : Int32)) tn hI htn (by have := th_l_2; omega) (by have := th_l_2; omega)) ok_O_160 cl_20 (show 0 < 1 from by omega) rfl (Nat.le_of_ble_eq_true rfl) dc_O_unbind_14 rfl (fun I24 p24 => ?_)
    obtain ⟨hI24, p24⟩ := p24
    try simp only [th_l_2] at p24
    exact th_vret C hQ dc_O_unbind_17 (by decide) (by decide) ⟨_, rfl, rfl, hI24, trivial⟩

set_option maxRecDepth 100000 in
set_option maxHeartbeats 4000000 in
theorem o_O_locks (l : Launch) (hl : l.stackTraces = false) {K sl : Int} {Z : th_I} (I : th_I) (t : Int32) (o : Int32) (a : Int32) (b : Int32) (tn : Nat) (hI : th_OI K sl Z I) (htn : (tn : Int) = t.toInt) (ht : 0 ≤ t.toInt ∧ t.toInt ≤ 4) (ha : 0 ≤ a.toInt ∧ a.toInt ≤ 2) (hb2 : o.toInt ≠ 7 ∨ (0 ≤ b.toInt ∧ b.toInt ≤ 3)) (hs : (I 32 0 tn).toInt = 1) : th_F l yn_O_locks cb_O_locks 6 none { frames := 4, cells := 0, slots := 0, locals := 93 } [.inr (some (20, 0)), .inl t, .inl o, .inl a, .inl b] (th_m I) (th_rv (fun J => th_OI K sl Z J ∧ (True))) := by
  refine th_of hl (by decide +kernel) (Nat.le_of_ble_eq_true rfl) (fun z C hQ hN => ?_)
  show th_G l z 6 0 [(0, .inr (some (20, 0))), (1, .inl t), (2, .inl o), (3, .inl a), (4, .inl b)] [] (th_m I) 0 0
  have hb := hI.2.2.1
  refine th_iload_n C dc_O_locks_0 rfl rfl ?_
  refine th_iconst (v := 5) C dc_O_locks_1 th_c_5 ?_
  refine tq_icmp_ne (tgt := 15) C dc_O_locks_2 (by decide) rfl th_l_5 (fun c1 => ?_) (fun c1 => ?_)
  · refine th_iload_n C dc_O_locks_15 rfl rfl ?_
    refine th_bipush (v := 7) C dc_O_locks_16 th_b_7 ?_
    refine tq_icmp_ne (tgt := 80) C dc_O_locks_18 (by decide) rfl th_l_7 (fun c2 => ?_) (fun c2 => ?_)
    · refine th_aload_n C dc_O_locks_80 rfl rfl ?_
      refine tq_getR C dc_O_locks_81 cl_20 fd_O_80 rfl (show 0 < 1 from by omega) rfl ?_
      refine th_iload_n C dc_O_locks_84 rfl rfl ?_
      obtain ⟨n4, m4⟩ := th_nat (a := a.toInt) (by omega)
      refine tq_ialdN C dc_O_locks_85 rfl (fun _ => rfl) (show 0 < 1 from by omega) rfl m4 (show n4 < 3 from by omega) (fun x3 e3 => ?_)
      have g3 : x3.toInt = (I 44 0 n4).toInt := by rw [e3]
      refine th_iload_n C dc_O_locks_86 rfl rfl ?_
      refine tq_icmp_eq (tgt := 99) C dc_O_locks_87 (by decide) rfl rfl (fun c5 => ?_) (fun c5 => ?_)
      · refine th_aload_n C dc_O_locks_99 rfl rfl ?_
        refine tq_getR C dc_O_locks_100 cl_20 fd_O_83 rfl (show 0 < 1 from by omega) rfl ?_
        refine th_iload_n C dc_O_locks_103 rfl rfl ?_
        refine th_dup2 C dc_O_locks_104 ?_
        refine tq_ialdN C dc_O_locks_105 rfl (fun _ => rfl) (show 0 < 1 from by omega) rfl m4 (show n4 < 3 from by omega) (fun x6 e6 => ?_)
        have g6 : x6.toInt = (I 45 0 n4).toInt := by rw [e6]
        refine th_iconst (v := 1) C dc_O_locks_106 th_c_1 ?_
        refine tq_isub C dc_O_locks_107 rfl th_l_1 (fun x7 e7 a7 => ?_)
        refine tq_iastN C dc_O_locks_108 rfl (fun _ => rfl) (show 0 < 1 from by omega) rfl m4 (show n4 < 3 from by omega) ?_
        refine th_gen (P := fun J => th_OI K sl Z J ∧ J = th_u I 45 0 n4 x7) ⟨ro_put hI rfl trivial, rfl⟩ (fun I8 hI8 => ?_)
        obtain ⟨hI8, u8⟩ := hI8
        have e9 : x3 = I8 44 0 n4 := by rw [u8, th_u_tag (by decide)]; exact e3
        have g9 : x3.toInt = (I8 44 0 n4).toInt := by rw [← e9]
        have e8 : x7 = I8 45 0 n4 := by rw [u8, th_u_eq]
        have g8 : x7.toInt = (I8 45 0 n4).toInt := by rw [← e8]
        refine th_aload_n C dc_O_locks_109 rfl rfl ?_
        refine tq_getR C dc_O_locks_110 cl_20 fd_O_83 rfl (show 0 < 1 from by omega) rfl ?_
        refine th_iload_n C dc_O_locks_113 rfl rfl ?_
        refine tq_ialdE C dc_O_locks_114 rfl (fun _ => rfl) (show 0 < 1 from by omega) rfl m4 (show n4 < 3 from by omega) e8 ?_
        refine tq_if_ne (tgt := 123) C dc_O_locks_115 (by decide) rfl (fun c11 => ?_) (fun c11 => ?_)
        · exact th_vret C hQ dc_O_locks_123 (by decide) (by decide) ⟨_, rfl, rfl, hI8, trivial⟩
        · refine th_aload_n C dc_O_locks_118 rfl rfl ?_
          refine th_iload_n C dc_O_locks_119 rfl rfl ?_
          refine tq_callVv C (o_O_pass l hl I8 a n4 hI8 m4 (by omega)) ok_O_143 cl_20 (show 0 < 1 from by omega) rfl (Nat.le_of_ble_eq_true rfl) dc_O_locks_120 rfl (fun I12 p12 => ?_)
          obtain ⟨hI12, p12⟩ := p12
          exact th_vret C hQ dc_O_locks_123 (by decide) (by decide) ⟨_, rfl, rfl, hI12, trivial⟩
      · refine th_aload_n C dc_O_locks_90 rfl rfl ?_
        refine th_iload_n C dc_O_locks_91 rfl rfl ?_
        refine th_iconst (v := 3) C dc_O_locks_92 th_c_3 ?_
        refine tq_callVv C (o_O_error l hl I t ((3 : Int32)) tn hI htn (by have := th_l_3; omega) (by have := th_l_3; omega)) ok_O_160 cl_20 (show 0 < 1 from by omega) rfl (Nat.le_of_ble_eq_true rfl) dc_O_locks_93 rfl (fun I13 p13 => ?_)
        obtain ⟨hI13, p13⟩ := p13
        try simp only [th_l_3] at p13
        refine th_goto (tgt := 123) C dc_O_locks_96 (by decide) ?_
        exact th_vret C hQ dc_O_locks_123 (by decide) (by decide) ⟨_, rfl, rfl, hI13, trivial⟩
    · refine th_aload_n C dc_O_locks_21 rfl rfl ?_
      refine tq_getR C dc_O_locks_22 cl_20 fd_O_80 rfl (show 0 < 1 from by omega) rfl ?_
      refine th_iload_n C dc_O_locks_25 rfl rfl ?_
      obtain ⟨n15, m15⟩ := th_nat (a := a.toInt) (by omega)
      refine tq_ialdN C dc_O_locks_26 rfl (fun _ => rfl) (show 0 < 1 from by omega) rfl m15 (show n15 < 3 from by omega) (fun x14 e14 => ?_)
      have g14 : x14.toInt = (I 44 0 n15).toInt := by rw [e14]
      refine th_iconst (v := -1) C dc_O_locks_27 th_c_m1 ?_
      refine tq_icmp_eq (tgt := 41) C dc_O_locks_28 (by decide) rfl th_l_m1 (fun c16 => ?_) (fun c16 => ?_)
      · refine th_iconst (v := 1) C dc_O_locks_41 th_c_1 ?_
        refine th_goto (tgt := 46) C dc_O_locks_42 (by decide) ?_
        refine th_istore (lv' := [(0, .inr (some (20, 0))), (1, .inl t), (2, .inl o), (3, .inl a), (4, .inl b), (5, .inl ((1 : Int32)))]) C dc_O_locks_46 (by decide) rfl ?_
        refine th_iload C dc_O_locks_48 rfl ?_
        refine tq_if_eq (tgt := 60) C dc_O_locks_50 (by decide) th_l_1 (fun c17 => ?_) (fun c17 => ?_)
        · exact absurd c17 (by decide)
        · refine th_aload_n C dc_O_locks_53 rfl rfl ?_
          refine th_iload_n C dc_O_locks_54 rfl rfl ?_
          refine th_iload_n C dc_O_locks_55 rfl rfl ?_
          refine th_iconst (v := 1) C dc_O_locks_56 th_c_1 ?_
          refine tq_callVv C (o_O_goFor l hl I t a ((1 : Int32)) tn n15 hI htn m15 (by have := th_l_1; omega) (by have := th_l_1; omega) (ro_no_of hI.2.2.2.2.1 (by omega)) (ro_no_of hI.2.2.2.2.2.1 (by omega)) (ro_no_of hI.2.2.2.2.2.2.1 (by omega))) ok_O_151 cl_20 (show 0 < 1 from by omega) rfl (Nat.le_of_ble_eq_true rfl) dc_O_locks_57 rfl (fun I18 p18 => ?_)
          obtain ⟨hI18, p18⟩ := p18
          try simp only [th_l_1] at p18
          refine th_aload_n C dc_O_locks_60 rfl rfl ?_
          refine th_iload_n C dc_O_locks_61 rfl rfl ?_
          refine th_iload C dc_O_locks_62 rfl ?_
          refine th_iload C dc_O_locks_64 rfl ?_
          refine tq_if_eq (tgt := 73) C dc_O_locks_66 (by decide) th_l_1 (fun c19 => ?_) (fun c19 => ?_)
          · exact absurd c19 (by decide)
          · refine th_iconst (v := 1) C dc_O_locks_69 th_c_1 ?_
            refine th_goto (tgt := 74) C dc_O_locks_70 (by decide) ?_
            refine tq_callVv C (o_O_put l hl I18 t b ((1 : Int32)) hI18 (by have := th_l_1; omega) (by have := th_l_1; omega)) ok_O_139 cl_20 (show 0 < 1 from by omega) rfl (Nat.le_of_ble_eq_true rfl) dc_O_locks_74 rfl (fun I20 p20 => ?_)
            obtain ⟨hI20, p20⟩ := p20
            try simp only [th_l_1] at p20
            refine th_goto (tgt := 123) C dc_O_locks_77 (by decide) ?_
            exact th_vret C hQ dc_O_locks_123 (by decide) (by decide) ⟨_, rfl, rfl, hI20, trivial⟩
      · refine th_aload_n C dc_O_locks_31 rfl rfl ?_
        refine tq_getR C dc_O_locks_32 cl_20 fd_O_80 rfl (show 0 < 1 from by omega) rfl ?_
        refine th_iload_n C dc_O_locks_35 rfl rfl ?_
        refine tq_ialdE C dc_O_locks_36 rfl (fun _ => rfl) (show 0 < 1 from by omega) rfl m15 (show n15 < 3 from by omega) e14 ?_
        refine th_iload_n C dc_O_locks_37 rfl rfl ?_
        refine tq_icmp_ne (tgt := 45) C dc_O_locks_38 (by decide) rfl rfl (fun c22 => ?_) (fun c22 => ?_)
        · refine th_iconst (v := 0) C dc_O_locks_45 th_c_0 ?_
          refine th_istore (lv' := [(0, .inr (some (20, 0))), (1, .inl t), (2, .inl o), (3, .inl a), (4, .inl b), (5, .inl ((0 : Int32)))]) C dc_O_locks_46 (by decide) rfl ?_
          refine th_iload C dc_O_locks_48 rfl ?_
          refine tq_if_eq (tgt := 60) C dc_O_locks_50 (by decide) th_l_0 (fun c23 => ?_) (fun c23 => ?_)
          · refine th_aload_n C dc_O_locks_60 rfl rfl ?_
            refine th_iload_n C dc_O_locks_61 rfl rfl ?_
            refine th_iload C dc_O_locks_62 rfl ?_
            refine th_iload C dc_O_locks_64 rfl ?_
            refine tq_if_eq (tgt := 73) C dc_O_locks_66 (by decide) th_l_0 (fun c24 => ?_) (fun c24 => ?_)
            · refine th_iconst (v := 0) C dc_O_locks_73 th_c_0 ?_
              refine tq_callVv C (o_O_put l hl I t b ((0 : Int32)) hI (by have := th_l_0; omega) (by have := th_l_0; omega)) ok_O_139 cl_20 (show 0 < 1 from by omega) rfl (Nat.le_of_ble_eq_true rfl) dc_O_locks_74 rfl (fun I25 p25 => ?_)
              obtain ⟨hI25, p25⟩ := p25
              try simp only [th_l_0] at p25
              refine th_goto (tgt := 123) C dc_O_locks_77 (by decide) ?_
              exact th_vret C hQ dc_O_locks_123 (by decide) (by decide) ⟨_, rfl, rfl, hI25, trivial⟩
            · exact absurd c24 (by decide)
          · exact absurd c23 (by decide)
        · refine th_iconst (v := 1) C dc_O_locks_41 th_c_1 ?_
          refine th_goto (tgt := 46) C dc_O_locks_42 (by decide) ?_
          refine th_istore (lv' := [(0, .inr (some (20, 0))), (1, .inl t), (2, .inl o), (3, .inl a), (4, .inl b), (5, .inl ((1 : Int32)))]) C dc_O_locks_46 (by decide) rfl ?_
          refine th_iload C dc_O_locks_48 rfl ?_
          refine tq_if_eq (tgt := 60) C dc_O_locks_50 (by decide) th_l_1 (fun c26 => ?_) (fun c26 => ?_)
          · exact absurd c26 (by decide)
          · refine th_aload_n C dc_O_locks_53 rfl rfl ?_
            refine th_iload_n C dc_O_locks_54 rfl rfl ?_
            refine th_iload_n C dc_O_locks_55 rfl rfl ?_
            refine th_iconst (v := 1) C dc_O_locks_56 th_c_1 ?_
            refine tq_callVv C (o_O_goFor l hl I t a ((1 : Int32)) tn n15 hI htn m15 (by have := th_l_1; omega) (by have := th_l_1; omega) (ro_no_of hI.2.2.2.2.1 (by omega)) (ro_no_of hI.2.2.2.2.2.1 (by omega)) (ro_no_of hI.2.2.2.2.2.2.1 (by omega))) ok_O_151 cl_20 (show 0 < 1 from by omega) rfl (Nat.le_of_ble_eq_true rfl) dc_O_locks_57 rfl (fun I27 p27 => ?_)
            obtain ⟨hI27, p27⟩ := p27
            try simp only [th_l_1] at p27
            refine th_aload_n C dc_O_locks_60 rfl rfl ?_
            refine th_iload_n C dc_O_locks_61 rfl rfl ?_
            refine th_iload C dc_O_locks_62 rfl ?_
            refine th_iload C dc_O_locks_64 rfl ?_
            refine tq_if_eq (tgt := 73) C dc_O_locks_66 (by decide) th_l_1 (fun c28 => ?_) (fun c28 => ?_)
            · exact absurd c28 (by decide)
            · refine th_iconst (v := 1) C dc_O_locks_69 th_c_1 ?_
              refine th_goto (tgt := 74) C dc_O_locks_70 (by decide) ?_
              refine tq_callVv C (o_O_put l hl I27 t b ((1 : Int32)) hI27 (by have := th_l_1; omega) (by have := th_l_1; omega)) ok_O_139 cl_20 (show 0 < 1 from by omega) rfl (Nat.le_of_ble_eq_true rfl) dc_O_locks_74 rfl (fun I29 p29 => ?_)
              obtain ⟨hI29, p29⟩ := p29
              try simp only [th_l_1] at p29
              refine th_goto (tgt := 123) C dc_O_locks_77 (by decide) ?_
              exact th_vret C hQ dc_O_locks_123 (by decide) (by decide) ⟨_, rfl, rfl, hI29, trivial⟩
  · refine th_aload_n C dc_O_locks_5 rfl rfl ?_
    refine th_iload_n C dc_O_locks_6 rfl rfl ?_
    refine th_iload_n C dc_O_locks_7 rfl rfl ?_
    refine th_iconst (v := 1) C dc_O_locks_8 th_c_1 ?_
    obtain ⟨n30, m30⟩ := th_nat (a := a.toInt) (by omega)
    refine tq_callVv C (o_O_goFor l hl I t a ((1 : Int32)) tn n30 hI htn m30 (by have := th_l_1; omega) (by have := th_l_1; omega) (ro_no_of hI.2.2.2.2.1 (by omega)) (ro_no_of hI.2.2.2.2.2.1 (by omega)) (ro_no_of hI.2.2.2.2.2.2.1 (by omega))) ok_O_151 cl_20 (show 0 < 1 from by omega) rfl (Nat.le_of_ble_eq_true rfl) dc_O_locks_9 rfl (fun I31 p31 => ?_)
    obtain ⟨hI31, p31⟩ := p31
    try simp only [th_l_1] at p31
    refine th_goto (tgt := 123) C dc_O_locks_12 (by decide) ?_
    exact th_vret C hQ dc_O_locks_123 (by decide) (by decide) ⟨_, rfl, rfl, hI31, trivial⟩

