set_option maxRecDepth 100000 in
set_option maxHeartbeats 4000000 in
theorem o_O_ready (l : Launch) (hl : l.stackTraces = false) {K sl : Int} {Z : th_I} (I : th_I) (hI : th_OI K sl Z I) : th_F l yn_O_ready cb_O_ready 2 (some .int) { frames := 0, cells := 0, slots := 0, locals := 0 } [.inr (some (20, 0))] (th_m I) (th_rp I (fun x => ro_rd I x.toInt)) := by
  refine th_of hl (by decide +kernel) (Nat.le_of_ble_eq_true rfl) (fun z C hQ hN => ?_)
  show th_G l z 2 0 [(0, .inr (some (20, 0)))] [] (th_m I) 0 0
  have hb := hI.2.2.1
  refine th_iconst (v := 1) C dc_O_ready_0 th_c_1 ?_
  refine th_istore_n (lv' := [(0, .inr (some (20, 0))), (1, .inl ((1 : Int32)))]) C dc_O_ready_1 rfl (by decide) rfl ?_
  have L2 : ∀ (N : Nat) (k : Int32), (1 ≤ k.toInt ∧ k.toInt ≤ 6) → (∀ e j : Nat, e < 5 → 1 ≤ j → (j : Int) < k.toInt → (e : Int) = ((I 53 0 6).toInt + (j : Int) + 5) % 5 → (I 32 0 e).toInt ≠ 1) → (6 - k.toInt).toNat < N → th_G l z 2 2 [(0, .inr (some (20, 0))), (1, .inl k)] [] (th_m I) 0 0 := by
    intro N
    induction N with
    | zero => intro k h1 h2 hm; exact absurd hm (Nat.not_lt_zero _)
    | succ N ih =>
      intro k h1 h2 hm
      refine th_iload_n C dc_O_ready_2 rfl rfl ?_
      refine th_bipush (v := 6) C dc_O_ready_3 th_b_6 ?_
      refine tq_icmp_ge (tgt := 50) C dc_O_ready_5 (by decide) rfl th_l_6 (fun c2 => ?_) (fun c2 => ?_)
      · refine th_iconst (v := -1) C dc_O_ready_50 th_c_m1 ?_
        exact th_iret C hQ dc_O_ready_51 (by decide) (by decide) ⟨_, rfl, rfl, Or.inl ⟨th_l_m1, ro_rdend (hI.1 53 0 6) (by omega) h2⟩⟩
      · refine th_aload_n C dc_O_ready_8 rfl rfl ?_
        refine tq_getR C dc_O_ready_9 cl_20 fd_O_43 rfl (show 0 < 1 from by omega) rfl ?_
        refine th_aload_n C dc_O_ready_12 rfl rfl ?_
        refine tq_getR C dc_O_ready_13 cl_20 fd_O_107 rfl (show 0 < 1 from by omega) rfl ?_
        refine th_bipush (v := 6) C dc_O_ready_16 th_b_6 ?_
        refine tq_ialdN C dc_O_ready_18 rfl (fun _ => rfl) (show 0 < 1 from by omega) th_l_6 (by decide) (show 6 < 8 from by omega) (fun x3 e3 => ?_)
        have g3 : x3.toInt = (I 53 0 6).toInt := by rw [e3]
        have r3 : -1 ≤ x3.toInt ∧ x3.toInt ≤ 4 := by rw [e3]; exact hI.1 53 0 6
        refine th_iload_n C dc_O_ready_19 rfl rfl ?_
        refine tq_iadd C dc_O_ready_20 rfl rfl (fun x4 e4 a4 => ?_)
        refine th_iconst (v := 5) C dc_O_ready_21 th_c_5 ?_
        refine tq_iadd C dc_O_ready_22 rfl th_l_5 (fun x5 e5 a5 => ?_)
        refine th_iconst (v := 5) C dc_O_ready_23 th_c_5 ?_
        refine th_irem C dc_O_ready_24 (by decide) ?_
        obtain ⟨x6, e6⟩ : ∃ r : Int32, r = x5 - x5 / (5 : Int32) * (5 : Int32) := ⟨_, rfl⟩
        rw [← e6]
        have a6 := th_rem5 (x := x5) (by omega) (by omega)
        rw [← e6] at a6
        have b6 := ro_rem5 (x := x5) (by omega) (by omega)
        rw [← e6] at b6
        obtain ⟨n8, m8⟩ := th_nat (a := x6.toInt) (by omega)
        refine tq_ialdN C dc_O_ready_25 rfl (fun _ => rfl) (show 0 < 1 from by omega) rfl m8 (show n8 < 5 from by omega) (fun x7 e7 => ?_)
        have g7 : x7.toInt = (I 32 0 n8).toInt := by rw [e7]
        refine th_iconst (v := 1) C dc_O_ready_26 th_c_1 ?_
        refine tq_icmp_ne (tgt := 44) C dc_O_ready_27 (by decide) rfl th_l_1 (fun c9 => ?_) (fun c9 => ?_)
        · have hst := ro_rdstep (k' := k.toInt + 1) h2 rfl (show (n8 : Int) = _ from by omega) (by omega)
          refine tq_iinc (lv' := fun rr => [(0, .inr (some (20, 0))), (1, .inl rr)]) C dc_O_ready_44 rfl (by decide) th_c_1 rfl th_l_1 (fun rr => rfl) (fun x10 e10 a10 => ?_)
          refine th_goto (tgt := 2) C dc_O_ready_47 (by decide) ?_
          exact ih x10 (by omega) (fun e j he hj1 hj2 q => hst e j he hj1 (by omega) q) (by omega)
        · refine th_aload_n C dc_O_ready_30 rfl rfl ?_
          refine tq_getR C dc_O_ready_31 cl_20 fd_O_107 rfl (show 0 < 1 from by omega) rfl ?_
          refine th_bipush (v := 6) C dc_O_ready_34 th_b_6 ?_
          refine tq_ialdE C dc_O_ready_36 rfl (fun _ => rfl) (show 0 < 1 from by omega) th_l_6 (by decide) (show 6 < 8 from by omega) e3 ?_
          refine th_iload_n C dc_O_ready_37 rfl rfl ?_
          refine tq_iadd C dc_O_ready_38 rfl rfl (fun x12 e12 a12 => ?_)
          refine th_iconst (v := 5) C dc_O_ready_39 th_c_5 ?_
          refine tq_iadd C dc_O_ready_40 rfl th_l_5 (fun x13 e13 a13 => ?_)
          refine th_iconst (v := 5) C dc_O_ready_41 th_c_5 ?_
          refine th_irem C dc_O_ready_42 (by decide) ?_
          obtain ⟨x14, e14⟩ : ∃ r : Int32, r = x13 - x13 / (5 : Int32) * (5 : Int32) := ⟨_, rfl⟩
          rw [← e14]
          have a14 := th_rem5 (x := x13) (by omega) (by omega)
          rw [← e14] at a14
          have b14 := ro_rem5 (x := x13) (by omega) (by omega)
          rw [← e14] at b14
          exact th_iret C hQ dc_O_ready_43 (by decide) (by decide) ⟨_, rfl, rfl, Or.inr ⟨(by omega), (by omega), fun e he => by have q : e = n8 := (by omega); rw [q]; omega⟩⟩
  exact L2 _ ((1 : Int32)) (by have := th_l_1; omega) (fun e j _ hj1 hj2 _ => absurd hj2 (by have := th_l_1; omega)) (Nat.lt_succ_self _)

set_option maxRecDepth 100000 in
set_option maxHeartbeats 4000000 in
theorem o_O_turn (l : Launch) (hl : l.stackTraces = false) {K sl : Int} {Z : th_I} (I : th_I) (t : Int32) (tn : Nat) (hI : th_OI K sl Z I) (htn : (tn : Int) = t.toInt) (ht : 0 ≤ t.toInt ∧ t.toInt ≤ 4) (hK : K + 20 ≤ 1000000) (hs : (I 32 0 tn).toInt = 1) : th_F l yn_O_turn cb_O_turn 4 none { frames := 7, cells := 0, slots := 0, locals := 163 } [.inr (some (20, 0)), .inl t] (th_m I) (th_rv (fun J => th_OI (K + 20) sl Z J ∧ (True))) := by
  refine th_of hl (by decide +kernel) (Nat.le_of_ble_eq_true rfl) (fun z C hQ hN => ?_)
  show th_G l z 4 0 [(0, .inr (some (20, 0))), (1, .inl t)] [] (th_m I) 0 0
  have hb := hI.2.2.1
  refine th_aload_n C dc_O_turn_0 rfl rfl ?_
  refine tq_getR C dc_O_turn_1 cl_20 fd_O_107 rfl (show 0 < 1 from by omega) rfl ?_
  refine th_iconst (v := 2) C dc_O_turn_4 th_c_2 ?_
  refine th_dup2 C dc_O_turn_5 ?_
  refine tq_ialdN C dc_O_turn_6 rfl (fun _ => rfl) (show 0 < 1 from by omega) th_l_2 (by decide) (show 2 < 8 from by omega) (fun x1 e1 => ?_)
  have g1 : x1.toInt = (I 53 0 2).toInt := by rw [e1]
  refine th_iconst (v := 1) C dc_O_turn_7 th_c_1 ?_
  refine tq_iadd C dc_O_turn_8 rfl th_l_1 (fun x2 e2 a2 => ?_)
  refine tq_iastN C dc_O_turn_9 rfl (fun _ => rfl) (show 0 < 1 from by omega) th_l_2 (by decide) (show 2 < 8 from by omega) ?_
  refine th_gen (P := fun J => th_OI K sl Z J ∧ J = th_u I 53 0 2 x2) ⟨ro_put hI rfl trivial, rfl⟩ (fun I3 hI3 => ?_)
  obtain ⟨hI3, u3⟩ := hI3
  have e3 : x2 = I3 53 0 2 := by rw [u3, th_u_eq]
  have g3 : x2.toInt = (I3 53 0 2).toInt := by rw [← e3]
  refine th_aload_n C dc_O_turn_10 rfl rfl ?_
  refine tq_getR C dc_O_turn_11 cl_20 fd_O_107 rfl (show 0 < 1 from by omega) rfl ?_
  refine th_bipush (v := 6) C dc_O_turn_14 th_b_6 ?_
  refine th_iload_n C dc_O_turn_16 rfl rfl ?_
  refine tq_iastN C dc_O_turn_17 rfl (fun _ => rfl) (show 0 < 1 from by omega) th_l_6 (by decide) (show 6 < 8 from by omega) ?_
  refine th_gen (P := fun J => th_OI K sl Z J ∧ J = th_u I3 53 0 6 t) ⟨ro_put hI3 rfl (show -1 ≤ t.toInt ∧ t.toInt ≤ 4 from by omega), rfl⟩ (fun I4 hI4 => ?_)
  obtain ⟨hI4, u4⟩ := hI4
  have e5 : x2 = I4 53 0 2 := by rw [u4, th_u_slot (by decide)]; exact e3
  have g5 : x2.toInt = (I4 53 0 2).toInt := by rw [← e5]
  have e4 : t = I4 53 0 6 := by rw [u4, th_u_eq]
  have g4 : t.toInt = (I4 53 0 6).toInt := by rw [← e4]
  refine th_aload_n C dc_O_turn_18 rfl rfl ?_
  refine th_iconst (v := 0) C dc_O_turn_19 th_c_0 ?_
  refine tq_putZ C dc_O_turn_20 cl_20 fd_O_188 rfl (show 0 < 1 from by omega) rfl rfl rfl rfl ?_
  refine th_gen (P := fun J => th_OI K sl Z J ∧ J = th_u I4 20 0 35 ((0 : Int32))) ⟨ro_put hI4 rfl trivial, rfl⟩ (fun I6 hI6 => ?_)
  obtain ⟨hI6, u6⟩ := hI6
  have e7 : x2 = I6 53 0 2 := by rw [u6, th_u_tag (by decide)]; exact e5
  have g7 : x2.toInt = (I6 53 0 2).toInt := by rw [← e7]
  have e8 : t = I6 53 0 6 := by rw [u6, th_u_tag (by decide)]; exact e4
  have g8 : t.toInt = (I6 53 0 6).toInt := by rw [← e8]
  have e6 : (0 : Int32) = I6 20 0 35 := by rw [u6, th_u_eq]
  have g6 : 0 = (I6 20 0 35).toInt := by rw [← e6]; exact th_l_0.symm
  refine th_aload_n C dc_O_turn_23 rfl rfl ?_
  refine tq_getR C dc_O_turn_24 cl_20 fd_O_77 rfl (show 0 < 1 from by omega) rfl ?_
  refine th_iload_n C dc_O_turn_27 rfl rfl ?_
  refine tq_zaldN C dc_O_turn_28 rfl (fun _ => rfl) (show 0 < 1 from by omega) rfl htn (show tn < 5 from by omega) (fun x9 e9 => ?_)
  have g9 : x9.toInt = (I6 43 0 tn).toInt := by rw [e9]
  refine tq_if_eq (tgt := 46) C dc_O_turn_29 (by decide) rfl (fun c10 => ?_) (fun c10 => ?_)
  · refine th_iconst (v := 0) C dc_O_turn_46 th_c_0 ?_
    refine th_istore_n (lv' := [(0, .inr (some (20, 0))), (1, .inl t), (2, .inl ((0 : Int32)))]) C dc_O_turn_47 rfl (by decide) rfl ?_
    have L48 : ∀ (N : Nat) (k : Int32) (I11 : th_I), (th_OI (K + k.toInt) sl Z I11) → (0 ≤ k.toInt ∧ k.toInt ≤ sl) → (sl - k.toInt).toNat < N → th_G l z 4 48 [(0, .inr (some (20, 0))), (1, .inl t), (2, .inl k)] [] (th_m I11) 0 0 := by
      intro N
      induction N with
      | zero => intro k I11 hI11 h1 hm; exact absurd hm (Nat.not_lt_zero _)
      | succ N ih =>
        intro k I11 hI11 h1 hm
        refine th_iload_n C dc_O_turn_48 rfl rfl ?_
        refine th_aload_n C dc_O_turn_49 rfl rfl ?_
        refine tq_getI C dc_O_turn_50 cl_20 fd_O_110 rfl (show 0 < 1 from by omega) (fun x12 e12 => ?_)
        have g12 : x12.toInt = (I11 20 0 33).toInt := by rw [e12]
        have r12 : x12.toInt = sl ∨ 0 < 0 := by rw [e12]; exact hI11.1 20 0 33
        refine tq_icmp_ge (tgt := 171) C dc_O_turn_53 (by decide) rfl rfl (fun c13 => ?_) (fun c13 => ?_)
        · exact th_vret C hQ dc_O_turn_171 (by decide) (by decide) ⟨_, rfl, rfl, (by first | exact hI11 | exact ro_mono hI11 (by omega) (by omega)), trivial⟩
        · refine th_aload_n C dc_O_turn_56 rfl rfl ?_
          refine tq_getR C dc_O_turn_57 cl_20 fd_O_43 rfl (show 0 < 1 from by omega) rfl ?_
          refine th_iload_n C dc_O_turn_60 rfl rfl ?_
          refine tq_ialdN C dc_O_turn_61 rfl (fun _ => rfl) (show 0 < 1 from by omega) rfl htn (show tn < 5 from by omega) (fun x14 e14 => ?_)
          have g14 : x14.toInt = (I11 32 0 tn).toInt := by rw [e14]
          refine th_iconst (v := 1) C dc_O_turn_62 th_c_1 ?_
          refine tq_icmp_ne (tgt := 171) C dc_O_turn_63 (by decide) rfl th_l_1 (fun c15 => ?_) (fun c15 => ?_)
          · exact th_vret C hQ dc_O_turn_171 (by decide) (by decide) ⟨_, rfl, rfl, (by first | exact hI11 | exact ro_mono hI11 (by omega) (by omega)), trivial⟩
          · refine th_aload_n C dc_O_turn_66 rfl rfl ?_
            refine tq_getI C dc_O_turn_67 cl_20 fd_O_188 rfl (show 0 < 1 from by omega) (fun x16 e16 => ?_)
            have g16 : x16.toInt = (I11 20 0 35).toInt := by rw [e16]
            refine tq_if_ne (tgt := 171) C dc_O_turn_70 (by decide) rfl (fun c17 => ?_) (fun c17 => ?_)
            · exact th_vret C hQ dc_O_turn_171 (by decide) (by decide) ⟨_, rfl, rfl, (by first | exact hI11 | exact ro_mono hI11 (by omega) (by omega)), trivial⟩
            · refine th_aload_n C dc_O_turn_73 rfl rfl ?_
              refine tq_getR C dc_O_turn_74 cl_20 fd_O_46 rfl (show 0 < 1 from by omega) rfl ?_
              refine th_iload_n C dc_O_turn_77 rfl rfl ?_
              refine tq_ialdN C dc_O_turn_78 rfl (fun _ => rfl) (show 0 < 1 from by omega) rfl htn (show tn < 5 from by omega) (fun x18 e18 => ?_)
              have g18 : x18.toInt = (I11 33 0 tn).toInt := by rw [e18]
              have r18 : 0 ≤ x18.toInt ∧ x18.toInt ≤ 24 := by rw [e18]; exact hI11.1 33 0 tn
              refine th_istore_n (lv' := [(0, .inr (some (20, 0))), (1, .inl t), (2, .inl k), (3, .inl x18)]) C dc_O_turn_79 rfl (by decide) rfl ?_
              refine th_iload_n C dc_O_turn_80 rfl rfl ?_
              refine th_aload_n C dc_O_turn_81 rfl rfl ?_
              refine tq_getR C dc_O_turn_82 cl_20 fd_O_19 rfl (show 0 < 1 from by omega) rfl ?_
              refine th_iload_n C dc_O_turn_85 rfl rfl ?_
              refine tq_ialdN C dc_O_turn_86 rfl (fun _ => rfl) (show 0 < 1 from by omega) rfl htn (show tn < 5 from by omega) (fun x19 e19 => ?_)
              have g19 : x19.toInt = (I11 24 0 tn).toInt := by rw [e19]
              have r19 : 0 ≤ x19.toInt ∧ x19.toInt ≤ 24 := by rw [e19]; exact hI11.1 24 0 tn
              refine tq_icmp_lt (tgt := 97) C dc_O_turn_87 (by decide) rfl rfl (fun c20 => ?_) (fun c20 => ?_)
              · refine th_aload_n C dc_O_turn_97 rfl rfl ?_
                refine tq_getR C dc_O_turn_98 cl_20 fd_O_46 rfl (show 0 < 1 from by omega) rfl ?_
                refine th_iload_n C dc_O_turn_101 rfl rfl ?_
                refine th_dup2 C dc_O_turn_102 ?_
                refine tq_ialdE C dc_O_turn_103 rfl (fun _ => rfl) (show 0 < 1 from by omega) rfl htn (show tn < 5 from by omega) e18 ?_
                refine th_iconst (v := 1) C dc_O_turn_104 th_c_1 ?_
                refine tq_iadd C dc_O_turn_105 rfl th_l_1 (fun x22 e22 a22 => ?_)
                refine tq_iastN C dc_O_turn_106 rfl (fun _ => rfl) (show 0 < 1 from by omega) rfl htn (show tn < 5 from by omega) ?_
                refine th_gen (P := fun J => th_OI (K + k.toInt) sl Z J ∧ J = th_u I11 33 0 tn x22) ⟨ro_put hI11 rfl (show 0 ≤ x22.toInt ∧ x22.toInt ≤ 24 from by omega), rfl⟩ (fun I23 hI23 => ?_)
                obtain ⟨hI23, u23⟩ := hI23
                have e24 : x12 = I23 20 0 33 := by rw [u23, th_u_tag (by decide)]; exact e12
                have g24 : x12.toInt = (I23 20 0 33).toInt := by rw [← e24]
                have e25 : x14 = I23 32 0 tn := by rw [u23, th_u_tag (by decide)]; exact e14
                have g25 : x14.toInt = (I23 32 0 tn).toInt := by rw [← e25]
                have e26 : x16 = I23 20 0 35 := by rw [u23, th_u_tag (by decide)]; exact e16
                have g26 : x16.toInt = (I23 20 0 35).toInt := by rw [← e26]
                have e27 : x19 = I23 24 0 tn := by rw [u23, th_u_tag (by decide)]; exact e19
                have g27 : x19.toInt = (I23 24 0 tn).toInt := by rw [← e27]
                have e23 : x22 = I23 33 0 tn := by rw [u23, th_u_eq]
                have g23 : x22.toInt = (I23 33 0 tn).toInt := by rw [← e23]
                refine th_aload_n C dc_O_turn_107 rfl rfl ?_
                refine tq_getR C dc_O_turn_108 cl_20 fd_O_55 rfl (show 0 < 1 from by omega) rfl ?_
                refine th_iload_n C dc_O_turn_111 rfl rfl ?_
                refine th_dup2 C dc_O_turn_112 ?_
                refine tq_ialdN C dc_O_turn_113 rfl (fun _ => rfl) (show 0 < 1 from by omega) rfl htn (show tn < 5 from by omega) (fun x28 e28 => ?_)
                have g28 : x28.toInt = (I23 36 0 tn).toInt := by rw [e28]
                refine th_iconst (v := 1) C dc_O_turn_114 th_c_1 ?_
                refine tq_iadd C dc_O_turn_115 rfl th_l_1 (fun x29 e29 a29 => ?_)
                refine tq_iastN C dc_O_turn_116 rfl (fun _ => rfl) (show 0 < 1 from by omega) rfl htn (show tn < 5 from by omega) ?_
                refine th_gen (P := fun J => th_OI (K + k.toInt) sl Z J ∧ J = th_u I23 36 0 tn x29) ⟨ro_put hI23 rfl trivial, rfl⟩ (fun I30 hI30 => ?_)
                obtain ⟨hI30, u30⟩ := hI30
                have e31 : x12 = I30 20 0 33 := by rw [u30, th_u_tag (by decide)]; exact e24
                have g31 : x12.toInt = (I30 20 0 33).toInt := by rw [← e31]
                have e32 : x14 = I30 32 0 tn := by rw [u30, th_u_tag (by decide)]; exact e25
                have g32 : x14.toInt = (I30 32 0 tn).toInt := by rw [← e32]
                have e33 : x16 = I30 20 0 35 := by rw [u30, th_u_tag (by decide)]; exact e26
                have g33 : x16.toInt = (I30 20 0 35).toInt := by rw [← e33]
                have e34 : x19 = I30 24 0 tn := by rw [u30, th_u_tag (by decide)]; exact e27
                have g34 : x19.toInt = (I30 24 0 tn).toInt := by rw [← e34]
                have e35 : x22 = I30 33 0 tn := by rw [u30, th_u_tag (by decide)]; exact e23
                have g35 : x22.toInt = (I30 33 0 tn).toInt := by rw [← e35]
                have e30 : x29 = I30 36 0 tn := by rw [u30, th_u_eq]
                have g30 : x29.toInt = (I30 36 0 tn).toInt := by rw [← e30]
                refine th_aload_n C dc_O_turn_117 rfl rfl ?_
                refine tq_getR C dc_O_turn_118 cl_20 fd_O_107 rfl (show 0 < 1 from by omega) rfl ?_
                refine th_iconst (v := 1) C dc_O_turn_121 th_c_1 ?_
                refine th_dup2 C dc_O_turn_122 ?_
                refine tq_ialdN C dc_O_turn_123 rfl (fun _ => rfl) (show 0 < 1 from by omega) th_l_1 (by decide) (show 1 < 8 from by omega) (fun x36 e36 => ?_)
                have g36 : x36.toInt = (I30 53 0 1).toInt := by rw [e36]
                refine th_iconst (v := 1) C dc_O_turn_124 th_c_1 ?_
                refine tq_iadd C dc_O_turn_125 rfl th_l_1 (fun x37 e37 a37 => ?_)
                refine tq_iastN C dc_O_turn_126 rfl (fun _ => rfl) (show 0 < 1 from by omega) th_l_1 (by decide) (show 1 < 8 from by omega) ?_
                refine th_gen (P := fun J => th_OI (K + k.toInt) sl Z J ∧ J = th_u I30 53 0 1 x37) ⟨ro_put hI30 rfl trivial, rfl⟩ (fun I38 hI38 => ?_)
                obtain ⟨hI38, u38⟩ := hI38
                have e39 : x12 = I38 20 0 33 := by rw [u38, th_u_tag (by decide)]; exact e31
                have g39 : x12.toInt = (I38 20 0 33).toInt := by rw [← e39]
                have e40 : x14 = I38 32 0 tn := by rw [u38, th_u_tag (by decide)]; exact e32
                have g40 : x14.toInt = (I38 32 0 tn).toInt := by rw [← e40]
                have e41 : x16 = I38 20 0 35 := by rw [u38, th_u_tag (by decide)]; exact e33
                have g41 : x16.toInt = (I38 20 0 35).toInt := by rw [← e41]
                have e42 : x19 = I38 24 0 tn := by rw [u38, th_u_tag (by decide)]; exact e34
                have g42 : x19.toInt = (I38 24 0 tn).toInt := by rw [← e42]
                have e43 : x22 = I38 33 0 tn := by rw [u38, th_u_tag (by decide)]; exact e35
                have g43 : x22.toInt = (I38 33 0 tn).toInt := by rw [← e43]
                have e44 : x29 = I38 36 0 tn := by rw [u38, th_u_tag (by decide)]; exact e30
                have g44 : x29.toInt = (I38 36 0 tn).toInt := by rw [← e44]
                have e38 : x37 = I38 53 0 1 := by rw [u38, th_u_eq]
                have g38 : x37.toInt = (I38 53 0 1).toInt := by rw [← e38]
                refine th_aload_n C dc_O_turn_127 rfl rfl ?_
                refine th_iload_n C dc_O_turn_128 rfl rfl ?_
                refine th_aload_n C dc_O_turn_129 rfl rfl ?_
                refine tq_getR C dc_O_turn_130 cl_20 fd_O_7 rfl (show 0 < 1 from by omega) rfl ?_
                refine th_bipush (v := 24) C dc_O_turn_133 th_b_24 ?_
                refine th_iload_n C dc_O_turn_135 rfl rfl ?_
                refine tq_imul C dc_O_turn_136 th_l_24 rfl (fun x45 e45 a45 => ?_)
                refine th_iload_n C dc_O_turn_137 rfl rfl ?_
                refine tq_iadd C dc_O_turn_138 rfl rfl (fun x46 e46 a46 => ?_)
                obtain ⟨n48, m48⟩ := th_nat (a := x46.toInt) (by omega)
                refine tq_ialdN C dc_O_turn_139 rfl (fun _ => rfl) (show 0 < 1 from by omega) rfl m48 (show n48 < 120 from by omega) (fun x47 e47 => ?_)
                have g47 : x47.toInt = (I38 21 0 n48).toInt := by rw [e47]
                refine th_aload_n C dc_O_turn_140 rfl rfl ?_
                refine tq_getR C dc_O_turn_141 cl_20 fd_O_13 rfl (show 0 < 1 from by omega) rfl ?_
                refine th_bipush (v := 24) C dc_O_turn_144 th_b_24 ?_
                refine th_iload_n C dc_O_turn_146 rfl rfl ?_
                refine tq_imul C dc_O_turn_147 th_l_24 rfl (fun x49 e49 a49 => ?_)
                refine th_iload_n C dc_O_turn_148 rfl rfl ?_
                refine tq_iadd C dc_O_turn_149 rfl rfl (fun x50 e50 a50 => ?_)
                obtain ⟨n52, m52⟩ := th_nat (a := x50.toInt) (by omega)
                refine tq_ialdN C dc_O_turn_150 rfl (fun _ => rfl) (show 0 < 1 from by omega) rfl m52 (show n52 < 120 from by omega) (fun x51 e51 => ?_)
                have g51 : x51.toInt = (I38 22 0 n52).toInt := by rw [e51]
                refine th_aload_n C dc_O_turn_151 rfl rfl ?_
                refine tq_getR C dc_O_turn_152 cl_20 fd_O_16 rfl (show 0 < 1 from by omega) rfl ?_
                refine th_bipush (v := 24) C dc_O_turn_155 th_b_24 ?_
                refine th_iload_n C dc_O_turn_157 rfl rfl ?_
                refine tq_imul C dc_O_turn_158 th_l_24 rfl (fun x53 e53 a53 => ?_)
                refine th_iload_n C dc_O_turn_159 rfl rfl ?_
                refine tq_iadd C dc_O_turn_160 rfl rfl (fun x54 e54 a54 => ?_)
                obtain ⟨n56, m56⟩ := th_nat (a := x54.toInt) (by omega)
                refine tq_ialdN C dc_O_turn_161 rfl (fun _ => rfl) (show 0 < 1 from by omega) rfl m56 (show n56 < 120 from by omega) (fun x55 e55 => ?_)
                have g55 : x55.toInt = (I38 23 0 n56).toInt := by rw [e55]
                refine tq_callVv C (o_O_act l hl I38 t x47 x51 x55 tn hI38 htn (by omega) (by have q1 : n52 = n48 := (by omega); have q2 : n56 = n48 := (by omega); rw [e47, e51, e55, q1, q2]; exact hI38.2.1 n48) (by omega) (by omega)) ok_O_199 cl_20 (show 0 < 1 from by omega) rfl (Nat.le_of_ble_eq_true rfl) dc_O_turn_162 rfl (fun I57 p57 => ?_)
                obtain ⟨hI57, p57⟩ := p57
                refine tq_iinc (lv' := fun rr => [(0, .inr (some (20, 0))), (1, .inl t), (2, .inl rr), (3, .inl x18)]) C dc_O_turn_165 rfl (by decide) th_c_1 rfl th_l_1 (fun rr => rfl) (fun x58 e58 a58 => ?_)
                refine th_goto (tgt := 48) C dc_O_turn_168 (by decide) ?_
                refine th_sub C (lv' := [(0, .inr (some (20, 0))), (1, .inl t), (2, .inl x58)]) (fun q hq => by simp at hq ⊢; rcases hq with rfl | rfl | rfl <;> simp) ?_
                exact ih x58 I57 (ro_mono hI57 (by omega) (by omega)) (by omega) (by omega)
              · refine th_aload_n C dc_O_turn_90 rfl rfl ?_
                refine th_iload_n C dc_O_turn_91 rfl rfl ?_
                refine th_iconst (v := 0) C dc_O_turn_92 th_c_0 ?_
                refine tq_callVv C (o_O_end l hl I11 t ((0 : Int32)) tn hI11 htn (by have := th_l_0; omega) (by have := th_l_0; omega)) ok_O_147 cl_20 (show 0 < 1 from by omega) rfl (Nat.le_of_ble_eq_true rfl) dc_O_turn_93 rfl (fun I59 p59 => ?_)
                obtain ⟨hI59, p59⟩ := p59
                try simp only [th_l_0] at p59
                exact th_vret C hQ dc_O_turn_96 (by decide) (by decide) ⟨_, rfl, rfl, (by first | exact hI59 | exact ro_mono hI59 (by omega) (by omega)), trivial⟩
    exact L48 _ ((0 : Int32)) I6 (ro_mono hI6 (by rw [th_l_0]; omega) (by rw [th_l_0]; omega)) (by have := th_l_0; omega) (Nat.lt_succ_self _)
  · refine th_aload_n C dc_O_turn_32 rfl rfl ?_
    refine tq_getR C dc_O_turn_33 cl_20 fd_O_77 rfl (show 0 < 1 from by omega) rfl ?_
    refine th_iload_n C dc_O_turn_36 rfl rfl ?_
    refine th_iconst (v := 0) C dc_O_turn_37 th_c_0 ?_
    refine tq_zastN C dc_O_turn_38 rfl (fun _ => rfl) (show 0 < 1 from by omega) rfl htn (show tn < 5 from by omega) rfl ?_
    refine th_gen (P := fun J => th_OI K sl Z J ∧ J = th_u I6 43 0 tn ((0 : Int32))) ⟨ro_put hI6 rfl trivial, rfl⟩ (fun I60 hI60 => ?_)
    obtain ⟨hI60, u60⟩ := hI60
    have e61 : x2 = I60 53 0 2 := by rw [u60, th_u_tag (by decide)]; exact e7
    have g61 : x2.toInt = (I60 53 0 2).toInt := by rw [← e61]
    have e62 : t = I60 53 0 6 := by rw [u60, th_u_tag (by decide)]; exact e8
    have g62 : t.toInt = (I60 53 0 6).toInt := by rw [← e62]
    have e63 : (0 : Int32) = I60 20 0 35 := by rw [u60, th_u_tag (by decide)]; exact e6
    have g63 : (0 : Int32).toInt = (I60 20 0 35).toInt := by rw [← e63]
    have e60 : (0 : Int32) = I60 43 0 tn := by rw [u60, th_u_eq]
    have g60 : 0 = (I60 43 0 tn).toInt := by rw [← e60]; exact th_l_0.symm
    refine th_aload_n C dc_O_turn_39 rfl rfl ?_
    refine th_iload_n C dc_O_turn_40 rfl rfl ?_
    refine th_bipush (v := 7) C dc_O_turn_41 th_b_7 ?_
    refine tq_callVv C (o_O_error l hl I60 t ((7 : Int32)) tn hI60 htn (by have := th_l_7; omega) (by rw [u60, th_u_tag (by decide), u6, th_u_tag (by decide), u4, th_u_tag (by decide), u3, th_u_tag (by decide)]; exact hs)) ok_O_160 cl_20 (show 0 < 1 from by omega) rfl (Nat.le_of_ble_eq_true rfl) dc_O_turn_43 rfl (fun I64 p64 => ?_)
    obtain ⟨hI64, p64⟩ := p64
    try simp only [th_l_7] at p64
    refine th_iconst (v := 0) C dc_O_turn_46 th_c_0 ?_
    refine th_istore_n (lv' := [(0, .inr (some (20, 0))), (1, .inl t), (2, .inl ((0 : Int32)))]) C dc_O_turn_47 rfl (by decide) rfl ?_
    have L48 : ∀ (N : Nat) (k : Int32) (I65 : th_I), (th_OI (K + k.toInt) sl Z I65) → (0 ≤ k.toInt ∧ k.toInt ≤ sl) → (sl - k.toInt).toNat < N → th_G l z 4 48 [(0, .inr (some (20, 0))), (1, .inl t), (2, .inl k)] [] (th_m I65) 0 0 := by
      intro N
      induction N with
      | zero => intro k I65 hI65 h1 hm; exact absurd hm (Nat.not_lt_zero _)
      | succ N ih =>
        intro k I65 hI65 h1 hm
        refine th_iload_n C dc_O_turn_48 rfl rfl ?_
        refine th_aload_n C dc_O_turn_49 rfl rfl ?_
        refine tq_getI C dc_O_turn_50 cl_20 fd_O_110 rfl (show 0 < 1 from by omega) (fun x66 e66 => ?_)
        have g66 : x66.toInt = (I65 20 0 33).toInt := by rw [e66]
        have r66 : x66.toInt = sl ∨ 0 < 0 := by rw [e66]; exact hI65.1 20 0 33
        refine tq_icmp_ge (tgt := 171) C dc_O_turn_53 (by decide) rfl rfl (fun c67 => ?_) (fun c67 => ?_)
        · exact th_vret C hQ dc_O_turn_171 (by decide) (by decide) ⟨_, rfl, rfl, (by first | exact hI65 | exact ro_mono hI65 (by omega) (by omega)), trivial⟩
        · refine th_aload_n C dc_O_turn_56 rfl rfl ?_
          refine tq_getR C dc_O_turn_57 cl_20 fd_O_43 rfl (show 0 < 1 from by omega) rfl ?_
          refine th_iload_n C dc_O_turn_60 rfl rfl ?_
          refine tq_ialdN C dc_O_turn_61 rfl (fun _ => rfl) (show 0 < 1 from by omega) rfl htn (show tn < 5 from by omega) (fun x68 e68 => ?_)
          have g68 : x68.toInt = (I65 32 0 tn).toInt := by rw [e68]
          refine th_iconst (v := 1) C dc_O_turn_62 th_c_1 ?_
          refine tq_icmp_ne (tgt := 171) C dc_O_turn_63 (by decide) rfl th_l_1 (fun c69 => ?_) (fun c69 => ?_)
          · exact th_vret C hQ dc_O_turn_171 (by decide) (by decide) ⟨_, rfl, rfl, (by first | exact hI65 | exact ro_mono hI65 (by omega) (by omega)), trivial⟩
          · refine th_aload_n C dc_O_turn_66 rfl rfl ?_
            refine tq_getI C dc_O_turn_67 cl_20 fd_O_188 rfl (show 0 < 1 from by omega) (fun x70 e70 => ?_)
            have g70 : x70.toInt = (I65 20 0 35).toInt := by rw [e70]
            refine tq_if_ne (tgt := 171) C dc_O_turn_70 (by decide) rfl (fun c71 => ?_) (fun c71 => ?_)
            · exact th_vret C hQ dc_O_turn_171 (by decide) (by decide) ⟨_, rfl, rfl, (by first | exact hI65 | exact ro_mono hI65 (by omega) (by omega)), trivial⟩
            · refine th_aload_n C dc_O_turn_73 rfl rfl ?_
              refine tq_getR C dc_O_turn_74 cl_20 fd_O_46 rfl (show 0 < 1 from by omega) rfl ?_
              refine th_iload_n C dc_O_turn_77 rfl rfl ?_
              refine tq_ialdN C dc_O_turn_78 rfl (fun _ => rfl) (show 0 < 1 from by omega) rfl htn (show tn < 5 from by omega) (fun x72 e72 => ?_)
              have g72 : x72.toInt = (I65 33 0 tn).toInt := by rw [e72]
              have r72 : 0 ≤ x72.toInt ∧ x72.toInt ≤ 24 := by rw [e72]; exact hI65.1 33 0 tn
              refine th_istore_n (lv' := [(0, .inr (some (20, 0))), (1, .inl t), (2, .inl k), (3, .inl x72)]) C dc_O_turn_79 rfl (by decide) rfl ?_
              refine th_iload_n C dc_O_turn_80 rfl rfl ?_
              refine th_aload_n C dc_O_turn_81 rfl rfl ?_
              refine tq_getR C dc_O_turn_82 cl_20 fd_O_19 rfl (show 0 < 1 from by omega) rfl ?_
              refine th_iload_n C dc_O_turn_85 rfl rfl ?_
              refine tq_ialdN C dc_O_turn_86 rfl (fun _ => rfl) (show 0 < 1 from by omega) rfl htn (show tn < 5 from by omega) (fun x73 e73 => ?_)
              have g73 : x73.toInt = (I65 24 0 tn).toInt := by rw [e73]
              have r73 : 0 ≤ x73.toInt ∧ x73.toInt ≤ 24 := by rw [e73]; exact hI65.1 24 0 tn
              refine tq_icmp_lt (tgt := 97) C dc_O_turn_87 (by decide) rfl rfl (fun c74 => ?_) (fun c74 => ?_)
              · refine th_aload_n C dc_O_turn_97 rfl rfl ?_
                refine tq_getR C dc_O_turn_98 cl_20 fd_O_46 rfl (show 0 < 1 from by omega) rfl ?_
                refine th_iload_n C dc_O_turn_101 rfl rfl ?_
                refine th_dup2 C dc_O_turn_102 ?_
                refine tq_ialdE C dc_O_turn_103 rfl (fun _ => rfl) (show 0 < 1 from by omega) rfl htn (show tn < 5 from by omega) e72 ?_
                refine th_iconst (v := 1) C dc_O_turn_104 th_c_1 ?_
                refine tq_iadd C dc_O_turn_105 rfl th_l_1 (fun x76 e76 a76 => ?_)
                refine tq_iastN C dc_O_turn_106 rfl (fun _ => rfl) (show 0 < 1 from by omega) rfl htn (show tn < 5 from by omega) ?_
                refine th_gen (P := fun J => th_OI (K + k.toInt) sl Z J ∧ J = th_u I65 33 0 tn x76) ⟨ro_put hI65 rfl (show 0 ≤ x76.toInt ∧ x76.toInt ≤ 24 from by omega), rfl⟩ (fun I77 hI77 => ?_)
                obtain ⟨hI77, u77⟩ := hI77
                have e78 : x66 = I77 20 0 33 := by rw [u77, th_u_tag (by decide)]; exact e66
                have g78 : x66.toInt = (I77 20 0 33).toInt := by rw [← e78]
                have e79 : x68 = I77 32 0 tn := by rw [u77, th_u_tag (by decide)]; exact e68
                have g79 : x68.toInt = (I77 32 0 tn).toInt := by rw [← e79]
                have e80 : x70 = I77 20 0 35 := by rw [u77, th_u_tag (by decide)]; exact e70
                have g80 : x70.toInt = (I77 20 0 35).toInt := by rw [← e80]
                have e81 : x73 = I77 24 0 tn := by rw [u77, th_u_tag (by decide)]; exact e73
                have g81 : x73.toInt = (I77 24 0 tn).toInt := by rw [← e81]
                have e77 : x76 = I77 33 0 tn := by rw [u77, th_u_eq]
                have g77 : x76.toInt = (I77 33 0 tn).toInt := by rw [← e77]
                refine th_aload_n C dc_O_turn_107 rfl rfl ?_
                refine tq_getR C dc_O_turn_108 cl_20 fd_O_55 rfl (show 0 < 1 from by omega) rfl ?_
                refine th_iload_n C dc_O_turn_111 rfl rfl ?_
                refine th_dup2 C dc_O_turn_112 ?_
                refine tq_ialdN C dc_O_turn_113 rfl (fun _ => rfl) (show 0 < 1 from by omega) rfl htn (show tn < 5 from by omega) (fun x82 e82 => ?_)
                have g82 : x82.toInt = (I77 36 0 tn).toInt := by rw [e82]
                refine th_iconst (v := 1) C dc_O_turn_114 th_c_1 ?_
                refine tq_iadd C dc_O_turn_115 rfl th_l_1 (fun x83 e83 a83 => ?_)
                refine tq_iastN C dc_O_turn_116 rfl (fun _ => rfl) (show 0 < 1 from by omega) rfl htn (show tn < 5 from by omega) ?_
                refine th_gen (P := fun J => th_OI (K + k.toInt) sl Z J ∧ J = th_u I77 36 0 tn x83) ⟨ro_put hI77 rfl trivial, rfl⟩ (fun I84 hI84 => ?_)
                obtain ⟨hI84, u84⟩ := hI84
                have e85 : x66 = I84 20 0 33 := by rw [u84, th_u_tag (by decide)]; exact e78
                have g85 : x66.toInt = (I84 20 0 33).toInt := by rw [← e85]
                have e86 : x68 = I84 32 0 tn := by rw [u84, th_u_tag (by decide)]; exact e79
                have g86 : x68.toInt = (I84 32 0 tn).toInt := by rw [← e86]
                have e87 : x70 = I84 20 0 35 := by rw [u84, th_u_tag (by decide)]; exact e80
                have g87 : x70.toInt = (I84 20 0 35).toInt := by rw [← e87]
                have e88 : x73 = I84 24 0 tn := by rw [u84, th_u_tag (by decide)]; exact e81
                have g88 : x73.toInt = (I84 24 0 tn).toInt := by rw [← e88]
                have e89 : x76 = I84 33 0 tn := by rw [u84, th_u_tag (by decide)]; exact e77
                have g89 : x76.toInt = (I84 33 0 tn).toInt := by rw [← e89]
                have e84 : x83 = I84 36 0 tn := by rw [u84, th_u_eq]
                have g84 : x83.toInt = (I84 36 0 tn).toInt := by rw [← e84]
                refine th_aload_n C dc_O_turn_117 rfl rfl ?_
                refine tq_getR C dc_O_turn_118 cl_20 fd_O_107 rfl (show 0 < 1 from by omega) rfl ?_
                refine th_iconst (v := 1) C dc_O_turn_121 th_c_1 ?_
                refine th_dup2 C dc_O_turn_122 ?_
                refine tq_ialdN C dc_O_turn_123 rfl (fun _ => rfl) (show 0 < 1 from by omega) th_l_1 (by decide) (show 1 < 8 from by omega) (fun x90 e90 => ?_)
                have g90 : x90.toInt = (I84 53 0 1).toInt := by rw [e90]
                refine th_iconst (v := 1) C dc_O_turn_124 th_c_1 ?_
                refine tq_iadd C dc_O_turn_125 rfl th_l_1 (fun x91 e91 a91 => ?_)
                refine tq_iastN C dc_O_turn_126 rfl (fun _ => rfl) (show 0 < 1 from by omega) th_l_1 (by decide) (show 1 < 8 from by omega) ?_
                refine th_gen (P := fun J => th_OI (K + k.toInt) sl Z J ∧ J = th_u I84 53 0 1 x91) ⟨ro_put hI84 rfl trivial, rfl⟩ (fun I92 hI92 => ?_)
                obtain ⟨hI92, u92⟩ := hI92
                have e93 : x66 = I92 20 0 33 := by rw [u92, th_u_tag (by decide)]; exact e85
                have g93 : x66.toInt = (I92 20 0 33).toInt := by rw [← e93]
                have e94 : x68 = I92 32 0 tn := by rw [u92, th_u_tag (by decide)]; exact e86
                have g94 : x68.toInt = (I92 32 0 tn).toInt := by rw [← e94]
                have e95 : x70 = I92 20 0 35 := by rw [u92, th_u_tag (by decide)]; exact e87
                have g95 : x70.toInt = (I92 20 0 35).toInt := by rw [← e95]
                have e96 : x73 = I92 24 0 tn := by rw [u92, th_u_tag (by decide)]; exact e88
                have g96 : x73.toInt = (I92 24 0 tn).toInt := by rw [← e96]
                have e97 : x76 = I92 33 0 tn := by rw [u92, th_u_tag (by decide)]; exact e89
                have g97 : x76.toInt = (I92 33 0 tn).toInt := by rw [← e97]
                have e98 : x83 = I92 36 0 tn := by rw [u92, th_u_tag (by decide)]; exact e84
                have g98 : x83.toInt = (I92 36 0 tn).toInt := by rw [← e98]
                have e92 : x91 = I92 53 0 1 := by rw [u92, th_u_eq]
                have g92 : x91.toInt = (I92 53 0 1).toInt := by rw [← e92]
                refine th_aload_n C dc_O_turn_127 rfl rfl ?_
                refine th_iload_n C dc_O_turn_128 rfl rfl ?_
                refine th_aload_n C dc_O_turn_129 rfl rfl ?_
                refine tq_getR C dc_O_turn_130 cl_20 fd_O_7 rfl (show 0 < 1 from by omega) rfl ?_
                refine th_bipush (v := 24) C dc_O_turn_133 th_b_24 ?_
                refine th_iload_n C dc_O_turn_135 rfl rfl ?_
                refine tq_imul C dc_O_turn_136 th_l_24 rfl (fun x99 e99 a99 => ?_)
                refine th_iload_n C dc_O_turn_137 rfl rfl ?_
                refine tq_iadd C dc_O_turn_138 rfl rfl (fun x100 e100 a100 => ?_)
                obtain ⟨n102, m102⟩ := th_nat (a := x100.toInt) (by omega)
                refine tq_ialdN C dc_O_turn_139 rfl (fun _ => rfl) (show 0 < 1 from by omega) rfl m102 (show n102 < 120 from by omega) (fun x101 e101 => ?_)
                have g101 : x101.toInt = (I92 21 0 n102).toInt := by rw [e101]
                refine th_aload_n C dc_O_turn_140 rfl rfl ?_
                refine tq_getR C dc_O_turn_141 cl_20 fd_O_13 rfl (show 0 < 1 from by omega) rfl ?_
                refine th_bipush (v := 24) C dc_O_turn_144 th_b_24 ?_
                refine th_iload_n C dc_O_turn_146 rfl rfl ?_
                refine tq_imul C dc_O_turn_147 th_l_24 rfl (fun x103 e103 a103 => ?_)
                refine th_iload_n C dc_O_turn_148 rfl rfl ?_
                refine tq_iadd C dc_O_turn_149 rfl rfl (fun x104 e104 a104 => ?_)
                obtain ⟨n106, m106⟩ := th_nat (a := x104.toInt) (by omega)
                refine tq_ialdN C dc_O_turn_150 rfl (fun _ => rfl) (show 0 < 1 from by omega) rfl m106 (show n106 < 120 from by omega) (fun x105 e105 => ?_)
                have g105 : x105.toInt = (I92 22 0 n106).toInt := by rw [e105]
                refine th_aload_n C dc_O_turn_151 rfl rfl ?_
                refine tq_getR C dc_O_turn_152 cl_20 fd_O_16 rfl (show 0 < 1 from by omega) rfl ?_
                refine th_bipush (v := 24) C dc_O_turn_155 th_b_24 ?_
                refine th_iload_n C dc_O_turn_157 rfl rfl ?_
                refine tq_imul C dc_O_turn_158 th_l_24 rfl (fun x107 e107 a107 => ?_)
                refine th_iload_n C dc_O_turn_159 rfl rfl ?_
                refine tq_iadd C dc_O_turn_160 rfl rfl (fun x108 e108 a108 => ?_)
                obtain ⟨n110, m110⟩ := th_nat (a := x108.toInt) (by omega)
                refine tq_ialdN C dc_O_turn_161 rfl (fun _ => rfl) (show 0 < 1 from by omega) rfl m110 (show n110 < 120 from by omega) (fun x109 e109 => ?_)
                have g109 : x109.toInt = (I92 23 0 n110).toInt := by rw [e109]
                refine tq_callVv C (o_O_act l hl I92 t x101 x105 x109 tn hI92 htn (by omega) (by have q1 : n106 = n102 := (by omega); have q2 : n110 = n102 := (by omega); rw [e101, e105, e109, q1, q2]; exact hI92.2.1 n102) (by omega) (by omega)) ok_O_199 cl_20 (show 0 < 1 from by omega) rfl (Nat.le_of_ble_eq_true rfl) dc_O_turn_162 rfl (fun I111 p111 => ?_)
                obtain ⟨hI111, p111⟩ := p111
                refine tq_iinc (lv' := fun rr => [(0, .inr (some (20, 0))), (1, .inl t), (2, .inl rr), (3, .inl x72)]) C dc_O_turn_165 rfl (by decide) th_c_1 rfl th_l_1 (fun rr => rfl) (fun x112 e112 a112 => ?_)
                refine th_goto (tgt := 48) C dc_O_turn_168 (by decide) ?_
                refine th_sub C (lv' := [(0, .inr (some (20, 0))), (1, .inl t), (2, .inl x112)]) (fun q hq => by simp at hq ⊢; rcases hq with rfl | rfl | rfl <;> simp) ?_
                exact ih x112 I111 (ro_mono hI111 (by omega) (by omega)) (by omega) (by omega)
              · refine th_aload_n C dc_O_turn_90 rfl rfl ?_
                refine th_iload_n C dc_O_turn_91 rfl rfl ?_
                refine th_iconst (v := 0) C dc_O_turn_92 th_c_0 ?_
                refine tq_callVv C (o_O_end l hl I65 t ((0 : Int32)) tn hI65 htn (by have := th_l_0; omega) (by have := th_l_0; omega)) ok_O_147 cl_20 (show 0 < 1 from by omega) rfl (Nat.le_of_ble_eq_true rfl) dc_O_turn_93 rfl (fun I113 p113 => ?_)
                obtain ⟨hI113, p113⟩ := p113
                try simp only [th_l_0] at p113
                exact th_vret C hQ dc_O_turn_96 (by decide) (by decide) ⟨_, rfl, rfl, (by first | exact hI113 | exact ro_mono hI113 (by omega) (by omega)), trivial⟩
    exact L48 _ ((0 : Int32)) I64 (ro_mono hI64 (by rw [th_l_0]; omega) (by rw [th_l_0]; omega)) (by have := th_l_0; omega) (Nat.lt_succ_self _)

set_option maxRecDepth 100000 in
set_option maxHeartbeats 4000000 in
theorem o_O_run (l : Launch) (hl : l.stackTraces = false) {K sl : Int} {Z : th_I} (I : th_I) (n : Int32) (hI : th_OI K sl Z I) (hK : K + 800 ≤ 1000000) : th_F l yn_O_run cb_O_run 4 (some .int) { frames := 8, cells := 0, slots := 0, locals := 186 } [.inr (some (20, 0)), .inl n] (th_m I) (th_ri (fun x J => th_OI (K + 800) sl Z J ∧ (True))) := by
  refine th_of hl (by decide +kernel) (Nat.le_of_ble_eq_true rfl) (fun z C hQ hN => ?_)
  show th_G l z 4 0 [(0, .inr (some (20, 0))), (1, .inl n)] [] (th_m I) 0 0
  have hb := hI.2.2.1
  refine th_aload_n C dc_O_run_0 rfl rfl ?_
  refine th_iconst (v := 0) C dc_O_run_1 th_c_0 ?_
  refine tq_putI C dc_O_run_2 cl_20 fd_O_114 rfl (show 0 < 1 from by omega) rfl rfl ?_
  refine th_gen (P := fun J => th_OI K sl Z J ∧ J = th_u I 20 0 34 ((0 : Int32))) ⟨ro_put hI rfl trivial, rfl⟩ (fun I1 hI1 => ?_)
  obtain ⟨hI1, u1⟩ := hI1
  have e1 : (0 : Int32) = I1 20 0 34 := by rw [u1, th_u_eq]
  have g1 : 0 = (I1 20 0 34).toInt := by rw [← e1]; exact th_l_0.symm
  refine th_iload_n C dc_O_run_5 rfl rfl ?_
  refine th_iconst (v := 1) C dc_O_run_6 th_c_1 ?_
  refine th_bipush (v := 40) C dc_O_run_7 th_b_40 ?_
  refine tq_callSp C (o_O_is l hl I1 n ((1 : Int32)) ((40 : Int32))) ok_O_117 rfl (Nat.le_of_ble_eq_true rfl) dc_O_run_9 rfl (fun x2 p2 => ?_)
  try simp only [th_l_1, th_l_40] at p2
  refine tq_if_ne (tgt := 21) C dc_O_run_12 (by decide) rfl (fun c3 => ?_) (fun c3 => ?_)
  · refine th_aload_n C dc_O_run_21 rfl rfl ?_
    refine tq_getR C dc_O_run_22 cl_20 fd_O_107 rfl (show 0 < 1 from by omega) rfl ?_
    refine th_iconst (v := 1) C dc_O_run_25 th_c_1 ?_
    refine tq_ialdN C dc_O_run_26 rfl (fun _ => rfl) (show 0 < 1 from by omega) th_l_1 (by decide) (show 1 < 8 from by omega) (fun x4 e4 => ?_)
    have g4 : x4.toInt = (I1 53 0 1).toInt := by rw [e4]
    refine th_istore_n (lv' := [(0, .inr (some (20, 0))), (1, .inl n), (2, .inl x4)]) C dc_O_run_27 rfl (by decide) rfl ?_
    refine th_iconst (v := 0) C dc_O_run_28 th_c_0 ?_
    refine th_istore_n (lv' := [(0, .inr (some (20, 0))), (1, .inl n), (2, .inl x4), (3, .inl ((0 : Int32)))]) C dc_O_run_29 rfl (by decide) rfl ?_
    have L30 : ∀ (N : Nat) (k : Int32) (I5 : th_I), (th_OI (K + 20 * k.toInt) sl Z I5) → (0 ≤ k.toInt ∧ k.toInt ≤ n.toInt) → (n.toInt - k.toInt).toNat < N → th_G l z 4 30 [(0, .inr (some (20, 0))), (1, .inl n), (2, .inl x4), (3, .inl k)] [] (th_m I5) 0 0 := by
      intro N
      induction N with
      | zero => intro k I5 hI5 h1 hm; exact absurd hm (Nat.not_lt_zero _)
      | succ N ih =>
        intro k I5 hI5 h1 hm
        refine th_iload_n C dc_O_run_30 rfl rfl ?_
        refine th_iload_n C dc_O_run_31 rfl rfl ?_
        refine tq_icmp_ge (tgt := 56) C dc_O_run_32 (by decide) rfl rfl (fun c6 => ?_) (fun c6 => ?_)
        · refine th_aload_n C dc_O_run_56 rfl rfl ?_
          refine tq_getR C dc_O_run_57 cl_20 fd_O_107 rfl (show 0 < 1 from by omega) rfl ?_
          refine th_iconst (v := 1) C dc_O_run_60 th_c_1 ?_
          refine tq_ialdN C dc_O_run_61 rfl (fun _ => rfl) (show 0 < 1 from by omega) th_l_1 (by decide) (show 1 < 8 from by omega) (fun x7 e7 => ?_)
          have g7 : x7.toInt = (I5 53 0 1).toInt := by rw [e7]
          refine th_iload_n C dc_O_run_62 rfl rfl ?_
          refine tq_isub C dc_O_run_63 rfl rfl (fun x8 e8 a8 => ?_)
          exact th_iret C hQ dc_O_run_64 (by decide) (by decide) ⟨_, _, rfl, rfl, (by first | exact hI5 | exact ro_mono hI5 (by omega) (by omega)), trivial⟩
        · refine th_aload_n C dc_O_run_35 rfl rfl ?_
          refine tq_callVp C (o_O_ready l hl I5 hI5) ok_O_192 cl_20 (show 0 < 1 from by omega) rfl (Nat.le_of_ble_eq_true rfl) dc_O_run_36 rfl (fun x9 p9 => ?_)
          refine tq_if_lt (tgt := 56) C dc_O_run_39 (by decide) rfl (fun c10 => ?_) (fun c10 => ?_)
          · refine th_aload_n C dc_O_run_56 rfl rfl ?_
            refine tq_getR C dc_O_run_57 cl_20 fd_O_107 rfl (show 0 < 1 from by omega) rfl ?_
            refine th_iconst (v := 1) C dc_O_run_60 th_c_1 ?_
            refine tq_ialdN C dc_O_run_61 rfl (fun _ => rfl) (show 0 < 1 from by omega) th_l_1 (by decide) (show 1 < 8 from by omega) (fun x11 e11 => ?_)
            have g11 : x11.toInt = (I5 53 0 1).toInt := by rw [e11]
            refine th_iload_n C dc_O_run_62 rfl rfl ?_
            refine tq_isub C dc_O_run_63 rfl rfl (fun x12 e12 a12 => ?_)
            exact th_iret C hQ dc_O_run_64 (by decide) (by decide) ⟨_, _, rfl, rfl, (by first | exact hI5 | exact ro_mono hI5 (by omega) (by omega)), trivial⟩
          · refine th_aload_n C dc_O_run_42 rfl rfl ?_
            refine th_aload_n C dc_O_run_43 rfl rfl ?_
            refine tq_callVp C (o_O_ready l hl I5 hI5) ok_O_192 cl_20 (show 0 < 1 from by omega) rfl (Nat.le_of_ble_eq_true rfl) dc_O_run_44 rfl (fun x13 p13 => ?_)
            have hr := ro_rdy p9 p13 (by omega)
            obtain ⟨hr1, hr2, hr3⟩ := hr
            obtain ⟨n14, m14⟩ := th_nat (a := x13.toInt) (by omega)
            refine tq_callVv C (o_O_turn l hl I5 x13 n14 hI5 m14 (by omega) (by omega) (hr3 _ (by omega))) ok_O_196 cl_20 (show 0 < 1 from by omega) rfl (Nat.le_of_ble_eq_true rfl) dc_O_run_47 rfl (fun I15 p15 => ?_)
            obtain ⟨hI15, p15⟩ := p15
            refine tq_iinc (lv' := fun rr => [(0, .inr (some (20, 0))), (1, .inl n), (2, .inl x4), (3, .inl rr)]) C dc_O_run_50 rfl (by decide) th_c_1 rfl th_l_1 (fun rr => rfl) (fun x16 e16 a16 => ?_)
            refine th_goto (tgt := 30) C dc_O_run_53 (by decide) ?_
            exact ih x16 I15 (ro_mono hI15 (by omega) (by omega)) (by omega) (by omega)
    exact L30 _ ((0 : Int32)) I1 (ro_mono hI1 (by rw [th_l_0]; omega) (by rw [th_l_0]; omega)) (by have := th_l_0; omega) (Nat.lt_succ_self _)
  · refine th_aload_n C dc_O_run_15 rfl rfl ?_
    refine th_iconst (v := 1) C dc_O_run_16 th_c_1 ?_
    refine tq_callVi C (o_O_refuse l hl I1 ((1 : Int32)) hI1) ok_O_124 cl_20 (show 0 < 1 from by omega) rfl (Nat.le_of_ble_eq_true rfl) dc_O_run_17 rfl (fun x17 I17 p17 => ?_)
    obtain ⟨hI17, p17⟩ := p17
    try simp only [th_l_1] at p17
    exact th_iret C hQ dc_O_run_20 (by decide) (by decide) ⟨_, _, rfl, rfl, (by first | exact hI17 | exact ro_mono hI17 (by omega) (by omega)), trivial⟩

