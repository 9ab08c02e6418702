set_option maxRecDepth 100000 in
set_option maxHeartbeats 4000000 in
theorem o_O_end (l : Launch) (hl : l.stackTraces = false) {K sl : Int} {Z : th_I} (I : th_I) (t : Int32) (v : Int32) (tn : Nat) (hI : th_OI K sl Z I) (htn : (tn : Int) = t.toInt) (ht : 0 ≤ t.toInt ∧ t.toInt ≤ 4) (hs : (I 32 0 tn).toInt = 1) : th_F l yn_O_end cb_O_end 5 none { frames := 2, cells := 0, slots := 0, locals := 47 } [.inr (some (20, 0)), .inl t, .inl v] (th_m I) (th_rv (fun J => th_OI K sl Z J ∧ (True))) := by
  refine th_of hl (by decide +kernel) (Nat.le_of_ble_eq_true rfl) (fun z C hQ hN => ?_)
  show th_G l z 5 0 [(0, .inr (some (20, 0))), (1, .inl t), (2, .inl v)] [] (th_m I) 0 0
  have hb := hI.2.2.1
  refine th_aload_n C dc_O_end_0 rfl rfl ?_
  refine tq_getR C dc_O_end_1 cl_20 fd_O_40 rfl (show 0 < 1 from by omega) rfl ?_
  refine th_iload_n C dc_O_end_4 rfl rfl ?_
  refine tq_ialdN C dc_O_end_5 rfl (fun _ => rfl) (show 0 < 1 from by omega) rfl htn (show tn < 5 from by omega) (fun x1 e1 => ?_)
  have g1 : x1.toInt = (I 31 0 tn).toInt := by rw [e1]
  have r1 : 0 ≤ x1.toInt ∧ x1.toInt ≤ 4 := by rw [e1]; exact hI.1 31 0 tn
  refine th_iconst (v := 1) C dc_O_end_6 th_c_1 ?_
  refine tq_isub C dc_O_end_7 rfl th_l_1 (fun x2 e2 a2 => ?_)
  refine th_istore_n (lv' := [(0, .inr (some (20, 0))), (1, .inl t), (2, .inl v), (3, .inl x2)]) C dc_O_end_8 rfl (by decide) rfl ?_
  have L9 : ∀ (N : Nat) (k : Int32) (I3 : th_I), (th_OI K sl Z I3) → (-1 ≤ k.toInt ∧ k.toInt ≤ 3) → ((I3 32 0 tn).toInt = 1) → (k.toInt + 1).toNat < N → th_G l z 5 9 [(0, .inr (some (20, 0))), (1, .inl t), (2, .inl v), (3, .inl k)] [] (th_m I3) 0 0 := by
    intro N
    induction N with
    | zero => intro k I3 hI3 h1 h2 hm; exact absurd hm (Nat.not_lt_zero _)
    | succ N ih =>
      intro k I3 hI3 h1 h2 hm
      refine th_iload_n C dc_O_end_9 rfl rfl ?_
      refine tq_if_lt (tgt := 56) C dc_O_end_10 (by decide) rfl (fun c4 => ?_) (fun c4 => ?_)
      · refine th_aload_n C dc_O_end_56 rfl rfl ?_
        refine tq_getR C dc_O_end_57 cl_20 fd_O_40 rfl (show 0 < 1 from by omega) rfl ?_
        refine th_iload_n C dc_O_end_60 rfl rfl ?_
        refine th_iconst (v := 0) C dc_O_end_61 th_c_0 ?_
        refine tq_iastN C dc_O_end_62 rfl (fun _ => rfl) (show 0 < 1 from by omega) rfl htn (show tn < 5 from by omega) ?_
        refine th_gen (P := fun J => th_OI K sl Z J ∧ J = th_u I3 31 0 tn ((0 : Int32))) ⟨ro_put hI3 rfl (show 0 ≤ (0 : Int32).toInt ∧ (0 : Int32).toInt ≤ 4 from by rw [th_l_0]; omega), rfl⟩ (fun I5 hI5 => ?_)
        obtain ⟨hI5, u5⟩ := hI5
        have e5 : (0 : Int32) = I5 31 0 tn := by rw [u5, th_u_eq]
        have g5 : 0 = (I5 31 0 tn).toInt := by rw [← e5]; exact th_l_0.symm
        refine th_aload_n C dc_O_end_63 rfl rfl ?_
        refine tq_getR C dc_O_end_64 cl_20 fd_O_31 rfl (show 0 < 1 from by omega) rfl ?_
        refine th_iload_n C dc_O_end_67 rfl rfl ?_
        refine th_iconst (v := 0) C dc_O_end_68 th_c_0 ?_
        refine tq_iastN C dc_O_end_69 rfl (fun _ => rfl) (show 0 < 1 from by omega) rfl htn (show tn < 5 from by omega) ?_
        refine th_gen (P := fun J => th_OI K sl Z J ∧ J = th_u I5 28 0 tn ((0 : Int32))) ⟨ro_put hI5 rfl (show 0 ≤ (0 : Int32).toInt ∧ (0 : Int32).toInt ≤ 12 from by rw [th_l_0]; omega), rfl⟩ (fun I6 hI6 => ?_)
        obtain ⟨hI6, u6⟩ := hI6
        have e7 : (0 : Int32) = I6 31 0 tn := by rw [u6, th_u_tag (by decide)]; exact e5
        have g7 : (0 : Int32).toInt = (I6 31 0 tn).toInt := by rw [← e7]
        have e6 : (0 : Int32) = I6 28 0 tn := by rw [u6, th_u_eq]
        have g6 : 0 = (I6 28 0 tn).toInt := by rw [← e6]; exact th_l_0.symm
        refine th_aload_n C dc_O_end_70 rfl rfl ?_
        refine tq_getR C dc_O_end_71 cl_20 fd_O_52 rfl (show 0 < 1 from by omega) rfl ?_
        refine th_iload_n C dc_O_end_74 rfl rfl ?_
        refine th_bipush (v := 24) C dc_O_end_75 th_b_24 ?_
        refine tq_iastN C dc_O_end_77 rfl (fun _ => rfl) (show 0 < 1 from by omega) rfl htn (show tn < 5 from by omega) ?_
        refine th_gen (P := fun J => th_OI K sl Z J ∧ J = th_u I6 35 0 tn ((24 : Int32))) ⟨ro_put hI6 rfl (show 0 ≤ (24 : Int32).toInt ∧ (24 : Int32).toInt ≤ 24 from by rw [th_l_24]; omega), rfl⟩ (fun I8 hI8 => ?_)
        obtain ⟨hI8, u8⟩ := hI8
        have e9 : (0 : Int32) = I8 31 0 tn := by rw [u8, th_u_tag (by decide)]; exact e7
        have g9 : (0 : Int32).toInt = (I8 31 0 tn).toInt := by rw [← e9]
        have e10 : (0 : Int32) = I8 28 0 tn := by rw [u8, th_u_tag (by decide)]; exact e6
        have g10 : (0 : Int32).toInt = (I8 28 0 tn).toInt := by rw [← e10]
        have e8 : (24 : Int32) = I8 35 0 tn := by rw [u8, th_u_eq]
        have g8 : 24 = (I8 35 0 tn).toInt := by rw [← e8]; exact th_l_24.symm
        refine th_aload_n C dc_O_end_78 rfl rfl ?_
        refine tq_getR C dc_O_end_79 cl_20 fd_O_73 rfl (show 0 < 1 from by omega) rfl ?_
        refine th_iload_n C dc_O_end_82 rfl rfl ?_
        refine th_iconst (v := 0) C dc_O_end_83 th_c_0 ?_
        refine tq_zastN C dc_O_end_84 rfl (fun _ => rfl) (show 0 < 1 from by omega) rfl htn (show tn < 5 from by omega) rfl ?_
        refine th_gen (P := fun J => th_OI K sl Z J ∧ J = th_u I8 42 0 tn ((0 : Int32))) ⟨ro_put hI8 rfl trivial, rfl⟩ (fun I11 hI11 => ?_)
        obtain ⟨hI11, u11⟩ := hI11
        have e12 : (0 : Int32) = I11 31 0 tn := by rw [u11, th_u_tag (by decide)]; exact e9
        have g12 : (0 : Int32).toInt = (I11 31 0 tn).toInt := by rw [← e12]
        have e13 : (0 : Int32) = I11 28 0 tn := by rw [u11, th_u_tag (by decide)]; exact e10
        have g13 : (0 : Int32).toInt = (I11 28 0 tn).toInt := by rw [← e13]
        have e14 : (24 : Int32) = I11 35 0 tn := by rw [u11, th_u_tag (by decide)]; exact e8
        have g14 : (24 : Int32).toInt = (I11 35 0 tn).toInt := by rw [← e14]
        have e11 : (0 : Int32) = I11 42 0 tn := by rw [u11, th_u_eq]
        have g11 : 0 = (I11 42 0 tn).toInt := by rw [← e11]; exact th_l_0.symm
        refine th_aload_n C dc_O_end_85 rfl rfl ?_
        refine tq_getR C dc_O_end_86 cl_20 fd_O_43 rfl (show 0 < 1 from by omega) rfl ?_
        refine th_iload_n C dc_O_end_89 rfl rfl ?_
        have s1 : (I11 32 0 tn).toInt = 1 := by rw [u11, th_u_tag (by decide), u8, th_u_tag (by decide), u6, th_u_tag (by decide), u5, th_u_tag (by decide)]; exact h2
        refine th_iconst (v := 5) C dc_O_end_90 th_c_5 ?_
        refine tq_iastN C dc_O_end_91 rfl (fun _ => rfl) (show 0 < 1 from by omega) rfl htn (show tn < 5 from by omega) ?_
        refine th_gen (P := fun J => th_OI K sl Z J ∧ J = th_u I11 32 0 tn ((5 : Int32))) ⟨ro_state hI11 (ro_no_of hI11.2.2.2.2.1 (by omega)) (ro_no_of hI11.2.2.2.2.2.1 (by omega)) (ro_no_of hI11.2.2.2.2.2.2.1 (by omega)) (by have := th_l_5; omega), rfl⟩ (fun I15 hI15 => ?_)
        obtain ⟨hI15, u15⟩ := hI15
        have e16 : (0 : Int32) = I15 31 0 tn := by rw [u15, th_u_tag (by decide)]; exact e12
        have g16 : (0 : Int32).toInt = (I15 31 0 tn).toInt := by rw [← e16]
        have e17 : (0 : Int32) = I15 28 0 tn := by rw [u15, th_u_tag (by decide)]; exact e13
        have g17 : (0 : Int32).toInt = (I15 28 0 tn).toInt := by rw [← e17]
        have e18 : (24 : Int32) = I15 35 0 tn := by rw [u15, th_u_tag (by decide)]; exact e14
        have g18 : (24 : Int32).toInt = (I15 35 0 tn).toInt := by rw [← e18]
        have e19 : (0 : Int32) = I15 42 0 tn := by rw [u15, th_u_tag (by decide)]; exact e11
        have g19 : (0 : Int32).toInt = (I15 42 0 tn).toInt := by rw [← e19]
        have e15 : (5 : Int32) = I15 32 0 tn := by rw [u15, th_u_eq]
        have g15 : 5 = (I15 32 0 tn).toInt := by rw [← e15]; exact th_l_5.symm
        refine th_aload_n C dc_O_end_92 rfl rfl ?_
        refine tq_getR C dc_O_end_93 cl_20 fd_O_49 rfl (show 0 < 1 from by omega) rfl ?_
        refine th_iload_n C dc_O_end_96 rfl rfl ?_
        refine th_iload_n C dc_O_end_97 rfl rfl ?_
        refine tq_iastN C dc_O_end_98 rfl (fun _ => rfl) (show 0 < 1 from by omega) rfl htn (show tn < 5 from by omega) ?_
        refine th_gen (P := fun J => th_OI K sl Z J ∧ J = th_u I15 34 0 tn v) ⟨ro_put hI15 rfl trivial, rfl⟩ (fun I20 hI20 => ?_)
        obtain ⟨hI20, u20⟩ := hI20
        have e21 : (0 : Int32) = I20 31 0 tn := by rw [u20, th_u_tag (by decide)]; exact e16
        have g21 : (0 : Int32).toInt = (I20 31 0 tn).toInt := by rw [← e21]
        have e22 : (0 : Int32) = I20 28 0 tn := by rw [u20, th_u_tag (by decide)]; exact e17
        have g22 : (0 : Int32).toInt = (I20 28 0 tn).toInt := by rw [← e22]
        have e23 : (24 : Int32) = I20 35 0 tn := by rw [u20, th_u_tag (by decide)]; exact e18
        have g23 : (24 : Int32).toInt = (I20 35 0 tn).toInt := by rw [← e23]
        have e24 : (0 : Int32) = I20 42 0 tn := by rw [u20, th_u_tag (by decide)]; exact e19
        have g24 : (0 : Int32).toInt = (I20 42 0 tn).toInt := by rw [← e24]
        have e25 : (5 : Int32) = I20 32 0 tn := by rw [u20, th_u_tag (by decide)]; exact e15
        have g25 : (5 : Int32).toInt = (I20 32 0 tn).toInt := by rw [← e25]
        have e20 : v = I20 34 0 tn := by rw [u20, th_u_eq]
        have g20 : v.toInt = (I20 34 0 tn).toInt := by rw [← e20]
        refine th_iconst (v := 0) C dc_O_end_99 th_c_0 ?_
        refine th_istore_n (lv' := [(0, .inr (some (20, 0))), (1, .inl t), (2, .inl v), (3, .inl ((0 : Int32)))]) C dc_O_end_100 rfl (by decide) rfl ?_
        have L101 : ∀ (N : Nat) (k : Int32) (I26 : th_I), (th_OI K sl Z I26) → (0 ≤ k.toInt ∧ k.toInt ≤ 3) → (3 - k.toInt).toNat < N → th_G l z 5 101 [(0, .inr (some (20, 0))), (1, .inl t), (2, .inl v), (3, .inl k)] [] (th_m I26) 0 0 := by
          intro N
          induction N with
          | zero => intro k I26 hI26 h1 hm; exact absurd hm (Nat.not_lt_zero _)
          | succ N ih =>
            intro k I26 hI26 h1 hm
            refine th_iload_n C dc_O_end_101 rfl rfl ?_
            refine th_iconst (v := 3) C dc_O_end_102 th_c_3 ?_
            refine tq_icmp_ge (tgt := 127) C dc_O_end_103 (by decide) rfl th_l_3 (fun c27 => ?_) (fun c27 => ?_)
            · have q51 : 0 ≤ (I26 51 0 tn).toInt ∧ (I26 51 0 tn).toInt ≤ 5 := hI26.1 51 0 tn
              refine th_iconst (v := 0) C dc_O_end_127 th_c_0 ?_
              refine th_istore_n (lv' := [(0, .inr (some (20, 0))), (1, .inl t), (2, .inl v), (3, .inl ((0 : Int32)))]) C dc_O_end_128 rfl (by decide) rfl ?_
              have L129 : ∀ (N : Nat) (k : Int32) (I28 : th_I), (ro_en K sl Z I26 tn I28) → (0 ≤ k.toInt ∧ k.toInt ≤ (I26 51 0 tn).toInt) → (5 - k.toInt).toNat < N → th_G l z 5 129 [(0, .inr (some (20, 0))), (1, .inl t), (2, .inl v), (3, .inl k)] [] (th_m I28) 0 0 := by
                intro N
                induction N with
                | zero => intro k I28 hI28 h1 hm; exact absurd hm (Nat.not_lt_zero _)
                | succ N ih =>
                  intro k I28 hI28 h1 hm
                  refine th_iload_n C dc_O_end_129 rfl rfl ?_
                  refine th_aload_n C dc_O_end_130 rfl rfl ?_
                  refine tq_getR C dc_O_end_131 cl_20 fd_O_101 rfl (show 0 < 1 from by omega) rfl ?_
                  refine th_iload_n C dc_O_end_134 rfl rfl ?_
                  refine tq_ialdN C dc_O_end_135 rfl (fun _ => rfl) (show 0 < 1 from by omega) rfl htn (show tn < 5 from by omega) (fun x29 e29 => ?_)
                  have g29 : x29.toInt = (I28 51 0 tn).toInt := by rw [e29]
                  have r29 : 0 ≤ x29.toInt ∧ x29.toInt ≤ 5 := by rw [e29]; exact hI28.1 51 0 tn
                  have q52 : (I28 51 0 tn).toInt = (I26 51 0 tn).toInt := by rw [hI28.2.2.1 51 0 tn (by decide) (by decide) (by decide)]
                  refine tq_icmp_ge (tgt := 179) C dc_O_end_136 (by decide) rfl rfl (fun c30 => ?_) (fun c30 => ?_)
                  · refine th_aload_n C dc_O_end_179 rfl rfl ?_
                    refine tq_getR C dc_O_end_180 cl_20 fd_O_101 rfl (show 0 < 1 from by omega) rfl ?_
                    refine th_iload_n C dc_O_end_183 rfl rfl ?_
                    refine th_iconst (v := 0) C dc_O_end_184 th_c_0 ?_
                    refine tq_iastN C dc_O_end_185 rfl (fun _ => rfl) (show 0 < 1 from by omega) rfl htn (show tn < 5 from by omega) ?_
                    refine th_gen (P := fun J => th_OI K sl Z J ∧ J = th_u I28 51 0 tn ((0 : Int32))) ⟨ro_enend hI28 hI26 (by omega) th_l_0, rfl⟩ (fun I31 hI31 => ?_)
                    obtain ⟨hI31, u31⟩ := hI31
                    have e31 : (0 : Int32) = I31 51 0 tn := by rw [u31, th_u_eq]
                    have g31 : 0 = (I31 51 0 tn).toInt := by rw [← e31]; exact th_l_0.symm
                    refine th_aload_n C dc_O_end_186 rfl rfl ?_
                    refine tq_getR C dc_O_end_187 cl_20 fd_O_107 rfl (show 0 < 1 from by omega) rfl ?_
                    refine th_bipush (v := 7) C dc_O_end_190 th_b_7 ?_
                    refine th_dup2 C dc_O_end_192 ?_
                    refine tq_ialdN C dc_O_end_193 rfl (fun _ => rfl) (show 0 < 1 from by omega) th_l_7 (by decide) (show 7 < 8 from by omega) (fun x32 e32 => ?_)
                    have g32 : x32.toInt = (I31 53 0 7).toInt := by rw [e32]
                    refine th_iconst (v := 1) C dc_O_end_194 th_c_1 ?_
                    refine tq_iadd C dc_O_end_195 rfl th_l_1 (fun x33 e33 a33 => ?_)
                    refine tq_iastN C dc_O_end_196 rfl (fun _ => rfl) (show 0 < 1 from by omega) th_l_7 (by decide) (show 7 < 8 from by omega) ?_
                    refine th_gen (P := fun J => th_OI K sl Z J ∧ J = th_u I31 53 0 7 x33) ⟨ro_put hI31 rfl trivial, rfl⟩ (fun I34 hI34 => ?_)
                    obtain ⟨hI34, u34⟩ := hI34
                    have e35 : (0 : Int32) = I34 51 0 tn := by rw [u34, th_u_tag (by decide)]; exact e31
                    have g35 : (0 : Int32).toInt = (I34 51 0 tn).toInt := by rw [← e35]
                    have e34 : x33 = I34 53 0 7 := by rw [u34, th_u_eq]
                    have g34 : x33.toInt = (I34 53 0 7).toInt := by rw [← e34]
                    exact th_vret C hQ dc_O_end_197 (by decide) (by decide) ⟨_, rfl, rfl, hI34, trivial⟩
                  · refine th_aload_n C dc_O_end_139 rfl rfl ?_
                    refine tq_getR C dc_O_end_140 cl_20 fd_O_98 rfl (show 0 < 1 from by omega) rfl ?_
                    refine th_iconst (v := 5) C dc_O_end_143 th_c_5 ?_
                    refine th_iload_n C dc_O_end_144 rfl rfl ?_
                    refine tq_imul C dc_O_end_145 th_l_5 rfl (fun x36 e36 a36 => ?_)
                    refine th_iload_n C dc_O_end_146 rfl rfl ?_
                    refine tq_iadd C dc_O_end_147 rfl rfl (fun x37 e37 a37 => ?_)
                    obtain ⟨n39, m39⟩ := th_nat (a := x37.toInt) (by omega)
                    refine tq_ialdN C dc_O_end_148 rfl (fun _ => rfl) (show 0 < 1 from by omega) rfl m39 (show n39 < 25 from by omega) (fun x38 e38 => ?_)
                    have g38 : x38.toInt = (I28 50 0 n39).toInt := by rw [e38]
                    have r38 : 0 ≤ x38.toInt ∧ x38.toInt ≤ 4 := by rw [e38]; exact hI28.1 50 0 n39
                    refine th_istore (lv' := [(0, .inr (some (20, 0))), (1, .inl t), (2, .inl v), (3, .inl k), (4, .inl x38)]) C dc_O_end_149 (by decide) rfl ?_
                    refine th_aload_n C dc_O_end_151 rfl rfl ?_
                    refine th_iload C dc_O_end_152 rfl ?_
                    refine th_aload_n C dc_O_end_154 rfl rfl ?_
                    refine tq_getR C dc_O_end_155 cl_20 fd_O_70 rfl (show 0 < 1 from by omega) rfl ?_
                    refine th_iload C dc_O_end_158 rfl ?_
                    obtain ⟨n41, m41⟩ := th_nat (a := x38.toInt) (by omega)
                    refine tq_ialdN C dc_O_end_160 rfl (fun _ => rfl) (show 0 < 1 from by omega) rfl m41 (show n41 < 5 from by omega) (fun x40 e40 => ?_)
                    have g40 : x40.toInt = (I28 41 0 n41).toInt := by rw [e40]
                    have r40 : 0 ≤ x40.toInt ∧ x40.toInt ≤ 3 := by rw [e40]; exact hI28.1 41 0 n41
                    refine th_iload_n C dc_O_end_161 rfl rfl ?_
                    refine tq_callVv C (o_O_putR l hl I28 x38 x40 v (ro_en_rg hI28 hb) (by omega) (by omega)) ok_O_139 cl_20 (show 0 < 1 from by omega) rfl (Nat.le_of_ble_eq_true rfl) dc_O_end_162 rfl (fun I42 p42 => ?_)
                    obtain ⟨hI42, p42⟩ := p42
                    have hI42 := ro_en_put hI28 hI42
                    refine th_aload_n C dc_O_end_165 rfl rfl ?_
                    refine tq_getR C dc_O_end_166 cl_20 fd_O_43 rfl (show 0 < 1 from by omega) rfl ?_
                    refine th_iload C dc_O_end_169 rfl ?_
                    refine th_iconst (v := 1) C dc_O_end_171 th_c_1 ?_
                    refine tq_iastN C dc_O_end_172 rfl (fun _ => rfl) (show 0 < 1 from by omega) rfl m41 (show n41 < 5 from by omega) ?_
                    refine th_gen (P := fun J => ro_en K sl Z I26 tn J ∧ J = th_u I42 32 0 n41 ((1 : Int32))) ⟨ro_en1 (k := k.toInt) (b := n39) hI28 hI42 (by omega) (by omega) (by omega) th_l_1, rfl⟩ (fun I43 hI43 => ?_)
                    obtain ⟨hI43, u43⟩ := hI43
                    have e43 : (1 : Int32) = I43 32 0 n41 := by rw [u43, th_u_eq]
                    have g43 : 1 = (I43 32 0 n41).toInt := by rw [← e43]; exact th_l_1.symm
                    refine tq_iinc (lv' := fun rr => [(0, .inr (some (20, 0))), (1, .inl t), (2, .inl v), (3, .inl rr), (4, .inl x38)]) C dc_O_end_173 rfl (by decide) th_c_1 rfl th_l_1 (fun rr => rfl) (fun x44 e44 a44 => ?_)
                    refine th_goto (tgt := 129) C dc_O_end_176 (by decide) ?_
                    refine th_sub C (lv' := [(0, .inr (some (20, 0))), (1, .inl t), (2, .inl v), (3, .inl x44)]) (fun q hq => by simp at hq ⊢; rcases hq with rfl | rfl | rfl | rfl <;> simp) ?_
                    exact ih x44 I43 hI43 (by omega) (by omega)
              exact L129 _ ((0 : Int32)) I26 (ro_en0 hI26) (by have := th_l_0; omega) (Nat.lt_succ_self _)
            · refine th_aload_n C dc_O_end_106 rfl rfl ?_
              refine tq_getR C dc_O_end_107 cl_20 fd_O_80 rfl (show 0 < 1 from by omega) rfl ?_
              refine th_iload_n C dc_O_end_110 rfl rfl ?_
              obtain ⟨n46, m46⟩ := th_nat (a := k.toInt) (by omega)
              refine tq_ialdN C dc_O_end_111 rfl (fun _ => rfl) (show 0 < 1 from by omega) rfl m46 (show n46 < 3 from by omega) (fun x45 e45 => ?_)
              have g45 : x45.toInt = (I26 44 0 n46).toInt := by rw [e45]
              refine th_iload_n C dc_O_end_112 rfl rfl ?_
              refine tq_icmp_ne (tgt := 121) C dc_O_end_113 (by decide) rfl rfl (fun c47 => ?_) (fun c47 => ?_)
              · refine tq_iinc (lv' := fun rr => [(0, .inr (some (20, 0))), (1, .inl t), (2, .inl v), (3, .inl rr)]) C dc_O_end_121 rfl (by decide) th_c_1 rfl th_l_1 (fun rr => rfl) (fun x48 e48 a48 => ?_)
                refine th_goto (tgt := 101) C dc_O_end_124 (by decide) ?_
                exact ih x48 I26 hI26 (by omega) (by omega)
              · refine th_aload_n C dc_O_end_116 rfl rfl ?_
                refine th_iload_n C dc_O_end_117 rfl rfl ?_
                refine tq_callVv C (o_O_pass l hl I26 k n46 hI26 m46 (by omega)) ok_O_143 cl_20 (show 0 < 1 from by omega) rfl (Nat.le_of_ble_eq_true rfl) dc_O_end_118 rfl (fun I49 p49 => ?_)
                obtain ⟨hI49, p49⟩ := p49
                refine tq_iinc (lv' := fun rr => [(0, .inr (some (20, 0))), (1, .inl t), (2, .inl v), (3, .inl rr)]) C dc_O_end_121 rfl (by decide) th_c_1 rfl th_l_1 (fun rr => rfl) (fun x50 e50 a50 => ?_)
                refine th_goto (tgt := 101) C dc_O_end_124 (by decide) ?_
                exact ih x50 I49 hI49 (by omega) (by omega)
        exact L101 _ ((0 : Int32)) I20 hI20 (by have := th_l_0; omega) (Nat.lt_succ_self _)
      · refine th_aload_n C dc_O_end_13 rfl rfl ?_
        refine tq_getR C dc_O_end_14 cl_20 fd_O_34 rfl (show 0 < 1 from by omega) rfl ?_
        refine th_iconst (v := 4) C dc_O_end_17 th_c_4 ?_
        refine th_iload_n C dc_O_end_18 rfl rfl ?_
        refine tq_imul C dc_O_end_19 th_l_4 rfl (fun x51 e51 a51 => ?_)
        refine th_iload_n C dc_O_end_20 rfl rfl ?_
        refine tq_iadd C dc_O_end_21 rfl rfl (fun x52 e52 a52 => ?_)
        obtain ⟨n54, m54⟩ := th_nat (a := x52.toInt) (by omega)
        refine tq_ialdN C dc_O_end_22 rfl (fun _ => rfl) (show 0 < 1 from by omega) rfl m54 (show n54 < 20 from by omega) (fun x53 e53 => ?_)
        have g53 : x53.toInt = (I3 29 0 n54).toInt := by rw [e53]
        have r53 : 0 ≤ x53.toInt ∧ x53.toInt ≤ 3 := by rw [e53]; exact hI3.1 29 0 n54
        refine th_istore (lv' := [(0, .inr (some (20, 0))), (1, .inl t), (2, .inl v), (3, .inl k), (4, .inl x53)]) C dc_O_end_23 (by decide) rfl ?_
        refine th_aload_n C dc_O_end_25 rfl rfl ?_
        refine th_iload_n C dc_O_end_26 rfl rfl ?_
        refine th_iload C dc_O_end_27 rfl ?_
        refine th_aload_n C dc_O_end_29 rfl rfl ?_
        refine th_iload_n C dc_O_end_30 rfl rfl ?_
        refine th_iload C dc_O_end_31 rfl ?_
        refine tq_callVp C (o_O_get l hl I3 t x53 hI3 (by omega) (by omega)) ok_O_136 cl_20 (show 0 < 1 from by omega) rfl (Nat.le_of_ble_eq_true rfl) dc_O_end_33 rfl (fun x55 p55 => ?_)
        refine th_aload_n C dc_O_end_36 rfl rfl ?_
        refine tq_getR C dc_O_end_37 cl_20 fd_O_37 rfl (show 0 < 1 from by omega) rfl ?_
        refine th_iconst (v := 4) C dc_O_end_40 th_c_4 ?_
        refine th_iload_n C dc_O_end_41 rfl rfl ?_
        refine tq_imul C dc_O_end_42 th_l_4 rfl (fun x56 e56 a56 => ?_)
        refine th_iload_n C dc_O_end_43 rfl rfl ?_
        refine tq_iadd C dc_O_end_44 rfl rfl (fun x57 e57 a57 => ?_)
        obtain ⟨n59, m59⟩ := th_nat (a := x57.toInt) (by omega)
        refine tq_ialdN C dc_O_end_45 rfl (fun _ => rfl) (show 0 < 1 from by omega) rfl m59 (show n59 < 20 from by omega) (fun x58 e58 => ?_)
        have g58 : x58.toInt = (I3 30 0 n59).toInt := by rw [e58]
        refine tq_iadd C dc_O_end_46 rfl rfl (fun x60 e60 a60 => ?_)
        refine tq_callVv C (o_O_put l hl I3 t x53 x60 hI3 (by omega) (by omega)) ok_O_139 cl_20 (show 0 < 1 from by omega) rfl (Nat.le_of_ble_eq_true rfl) dc_O_end_47 rfl (fun I61 p61 => ?_)
        obtain ⟨hI61, p61⟩ := p61
        have hs2 : (I61 32 0 tn).toInt = 1 := by rw [p61 32 0 tn (by decide) (by decide)]; exact h2
        refine tq_iinc (lv' := fun rr => [(0, .inr (some (20, 0))), (1, .inl t), (2, .inl v), (3, .inl rr), (4, .inl x53)]) C dc_O_end_50 rfl (by decide) th_c_m1 rfl th_l_m1 (fun rr => rfl) (fun x62 e62 a62 => ?_)
        refine th_goto (tgt := 9) C dc_O_end_53 (by decide) ?_
        refine th_sub C (lv' := [(0, .inr (some (20, 0))), (1, .inl t), (2, .inl v), (3, .inl x62)]) (fun q hq => by simp at hq ⊢; rcases hq with rfl | rfl | rfl | rfl <;> simp) ?_
        exact ih x62 I61 hI61 (by omega) hs2 (by omega)
  exact L9 _ x2 I hI (by omega) hs (Nat.lt_succ_self _)

