theorem oi_1 : Cond.instanceMethod objectInit ∈ th_B := (tb 66 (by decide +kernel) rfl)
theorem oi_2 : Cond.code objectInit ⟨#[0xb1]⟩ 1 none ∈ th_B := (tb 67 (by decide +kernel) rfl)
theorem ac_int : Cond.arrayClass .int ∈ th_B := (tb 98 (by decide +kernel) rfl)
theorem ac_boolean : Cond.arrayClass .boolean ∈ th_B := (tb 737 (by decide +kernel) rfl)
theorem hd_16 : ∀ k, k < 3 → (th_fr 16 k = true ∧ defaultValue (ft_M k) = .null) ∨ (th_fr 16 k = false ∧ defaultValue (ft_M k) = .int 0) := fun k hk => match k, hk with
  | 0, _ => Or.inl ⟨rfl, rfl⟩
  | 1, _ => Or.inr ⟨rfl, rfl⟩
  | 2, _ => Or.inr ⟨rfl, rfl⟩
  | k + 3, hk => absurd hk (by omega)
theorem hd_11 : ∀ k, k < 3 → (th_fr 11 k = true ∧ defaultValue (ft_Q k) = .null) ∨ (th_fr 11 k = false ∧ defaultValue (ft_Q k) = .int 0) := fun k hk => match k, hk with
  | 0, _ => Or.inl ⟨rfl, rfl⟩
  | 1, _ => Or.inl ⟨rfl, rfl⟩
  | 2, _ => Or.inr ⟨rfl, rfl⟩
  | k + 3, hk => absurd hk (by omega)
theorem hd_7 : ∀ k, k < 4 → (th_fr 7 k = true ∧ defaultValue (ft_P k) = .null) ∨ (th_fr 7 k = false ∧ defaultValue (ft_P k) = .int 0) := fun k hk => match k, hk with
  | 0, _ => Or.inl ⟨rfl, rfl⟩
  | 1, _ => Or.inl ⟨rfl, rfl⟩
  | 2, _ => Or.inl ⟨rfl, rfl⟩
  | 3, _ => Or.inr ⟨rfl, rfl⟩
  | k + 4, hk => absurd hk (by omega)
theorem hd_14 : ∀ k, k < 2 → (th_fr 14 k = true ∧ defaultValue (ft_R k) = .null) ∨ (th_fr 14 k = false ∧ defaultValue (ft_R k) = .int 0) := fun k hk => match k, hk with
  | 0, _ => Or.inl ⟨rfl, rfl⟩
  | 1, _ => Or.inr ⟨rfl, rfl⟩
  | k + 2, hk => absurd hk (by omega)
theorem hd_6 : ∀ k, k < 18 → (th_fr 6 k = true ∧ defaultValue (ft_S k) = .null) ∨ (th_fr 6 k = false ∧ defaultValue (ft_S k) = .int 0) := fun k hk => match k, hk with
  | 0, _ => Or.inr ⟨rfl, rfl⟩
  | 1, _ => Or.inl ⟨rfl, rfl⟩
  | 2, _ => Or.inl ⟨rfl, rfl⟩
  | 3, _ => Or.inl ⟨rfl, rfl⟩
  | 4, _ => Or.inl ⟨rfl, rfl⟩
  | 5, _ => Or.inr ⟨rfl, rfl⟩
  | 6, _ => Or.inr ⟨rfl, rfl⟩
  | 7, _ => Or.inr ⟨rfl, rfl⟩
  | 8, _ => Or.inr ⟨rfl, rfl⟩
  | 9, _ => Or.inr ⟨rfl, rfl⟩
  | 10, _ => Or.inr ⟨rfl, rfl⟩
  | 11, _ => Or.inr ⟨rfl, rfl⟩
  | 12, _ => Or.inr ⟨rfl, rfl⟩
  | 13, _ => Or.inr ⟨rfl, rfl⟩
  | 14, _ => Or.inr ⟨rfl, rfl⟩
  | 15, _ => Or.inr ⟨rfl, rfl⟩
  | 16, _ => Or.inr ⟨rfl, rfl⟩
  | 17, _ => Or.inr ⟨rfl, rfl⟩
  | k + 18, hk => absurd hk (by omega)
theorem hd_0 : ∀ k, k < 12 → (th_fr 0 k = true ∧ defaultValue (ft_H k) = .null) ∨ (th_fr 0 k = false ∧ defaultValue (ft_H k) = .int 0) := fun k hk => match k, hk with
  | 0, _ => Or.inl ⟨rfl, rfl⟩
  | 1, _ => Or.inl ⟨rfl, rfl⟩
  | 2, _ => Or.inl ⟨rfl, rfl⟩
  | 3, _ => Or.inl ⟨rfl, rfl⟩
  | 4, _ => Or.inl ⟨rfl, rfl⟩
  | 5, _ => Or.inr ⟨rfl, rfl⟩
  | 6, _ => Or.inr ⟨rfl, rfl⟩
  | 7, _ => Or.inr ⟨rfl, rfl⟩
  | 8, _ => Or.inr ⟨rfl, rfl⟩
  | 9, _ => Or.inr ⟨rfl, rfl⟩
  | 10, _ => Or.inr ⟨rfl, rfl⟩
  | 11, _ => Or.inr ⟨rfl, rfl⟩
  | k + 12, hk => absurd hk (by omega)
theorem hd_20 : ∀ k, k < 36 → (th_fr 20 k = true ∧ defaultValue (ft_O k) = .null) ∨ (th_fr 20 k = false ∧ defaultValue (ft_O k) = .int 0) := fun k hk => match k, hk with
  | 0, _ => Or.inl ⟨rfl, rfl⟩
  | 1, _ => Or.inl ⟨rfl, rfl⟩
  | 2, _ => Or.inl ⟨rfl, rfl⟩
  | 3, _ => Or.inl ⟨rfl, rfl⟩
  | 4, _ => Or.inl ⟨rfl, rfl⟩
  | 5, _ => Or.inl ⟨rfl, rfl⟩
  | 6, _ => Or.inl ⟨rfl, rfl⟩
  | 7, _ => Or.inl ⟨rfl, rfl⟩
  | 8, _ => Or.inl ⟨rfl, rfl⟩
  | 9, _ => Or.inl ⟨rfl, rfl⟩
  | 10, _ => Or.inl ⟨rfl, rfl⟩
  | 11, _ => Or.inl ⟨rfl, rfl⟩
  | 12, _ => Or.inl ⟨rfl, rfl⟩
  | 13, _ => Or.inl ⟨rfl, rfl⟩
  | 14, _ => Or.inl ⟨rfl, rfl⟩
  | 15, _ => Or.inl ⟨rfl, rfl⟩
  | 16, _ => Or.inl ⟨rfl, rfl⟩
  | 17, _ => Or.inl ⟨rfl, rfl⟩
  | 18, _ => Or.inl ⟨rfl, rfl⟩
  | 19, _ => Or.inl ⟨rfl, rfl⟩
  | 20, _ => Or.inl ⟨rfl, rfl⟩
  | 21, _ => Or.inl ⟨rfl, rfl⟩
  | 22, _ => Or.inl ⟨rfl, rfl⟩
  | 23, _ => Or.inl ⟨rfl, rfl⟩
  | 24, _ => Or.inl ⟨rfl, rfl⟩
  | 25, _ => Or.inl ⟨rfl, rfl⟩
  | 26, _ => Or.inl ⟨rfl, rfl⟩
  | 27, _ => Or.inl ⟨rfl, rfl⟩
  | 28, _ => Or.inl ⟨rfl, rfl⟩
  | 29, _ => Or.inl ⟨rfl, rfl⟩
  | 30, _ => Or.inl ⟨rfl, rfl⟩
  | 31, _ => Or.inl ⟨rfl, rfl⟩
  | 32, _ => Or.inl ⟨rfl, rfl⟩
  | 33, _ => Or.inr ⟨rfl, rfl⟩
  | 34, _ => Or.inr ⟨rfl, rfl⟩
  | 35, _ => Or.inr ⟨rfl, rfl⟩
  | k + 36, hk => absurd hk (by omega)
theorem dc_R_init_0 : decode cb_R_init 0 = .ok (.aload_n 0, 1) := by decide +kernel
theorem dc_R_init_1 : decode cb_R_init 1 = .ok (.invokespecial 3, 3) := by decide +kernel
theorem dc_R_init_4 : decode cb_R_init 4 = .ok (.aload_n 0, 1) := by decide +kernel
theorem dc_R_init_5 : decode cb_R_init 5 = .ok (.iconst 5, 1) := by decide +kernel
theorem dc_R_init_6 : decode cb_R_init 6 = .ok (.newarray .int, 2) := by decide +kernel
theorem dc_R_init_8 : decode cb_R_init 8 = .ok (.putfield 9, 3) := by decide +kernel
theorem dc_R_init_11 : decode cb_R_init 11 = .ok (.return_, 1) := by decide +kernel
theorem dc_P_init_0 : decode cb_P_init 0 = .ok (.aload_n 0, 1) := by decide +kernel
theorem dc_P_init_1 : decode cb_P_init 1 = .ok (.invokespecial 3, 3) := by decide +kernel
theorem dc_P_init_4 : decode cb_P_init 4 = .ok (.aload_n 0, 1) := by decide +kernel
theorem dc_P_init_5 : decode cb_P_init 5 = .ok (.bipush 24, 2) := by decide +kernel
theorem dc_P_init_7 : decode cb_P_init 7 = .ok (.newarray .int, 2) := by decide +kernel
theorem dc_P_init_9 : decode cb_P_init 9 = .ok (.putfield 9, 3) := by decide +kernel
theorem dc_P_init_12 : decode cb_P_init 12 = .ok (.aload_n 0, 1) := by decide +kernel
theorem dc_P_init_13 : decode cb_P_init 13 = .ok (.bipush 24, 2) := by decide +kernel
theorem dc_P_init_15 : decode cb_P_init 15 = .ok (.newarray .int, 2) := by decide +kernel
theorem dc_P_init_17 : decode cb_P_init 17 = .ok (.putfield 15, 3) := by decide +kernel
theorem dc_P_init_20 : decode cb_P_init 20 = .ok (.aload_n 0, 1) := by decide +kernel
theorem dc_P_init_21 : decode cb_P_init 21 = .ok (.bipush 24, 2) := by decide +kernel
theorem dc_P_init_23 : decode cb_P_init 23 = .ok (.newarray .int, 2) := by decide +kernel
theorem dc_P_init_25 : decode cb_P_init 25 = .ok (.putfield 18, 3) := by decide +kernel
theorem dc_P_init_28 : decode cb_P_init 28 = .ok (.return_, 1) := by decide +kernel
theorem dc_Q_init_0 : decode cb_Q_init 0 = .ok (.aload_n 0, 1) := by decide +kernel
theorem dc_Q_init_1 : decode cb_Q_init 1 = .ok (.invokespecial 3, 3) := by decide +kernel
theorem dc_Q_init_4 : decode cb_Q_init 4 = .ok (.aload_n 0, 1) := by decide +kernel
theorem dc_Q_init_5 : decode cb_Q_init 5 = .ok (.iload_n 1, 1) := by decide +kernel
theorem dc_Q_init_6 : decode cb_Q_init 6 = .ok (.newarray .int, 2) := by decide +kernel
theorem dc_Q_init_8 : decode cb_Q_init 8 = .ok (.putfield 9, 3) := by decide +kernel
theorem dc_Q_init_11 : decode cb_Q_init 11 = .ok (.aload_n 0, 1) := by decide +kernel
theorem dc_Q_init_12 : decode cb_Q_init 12 = .ok (.iload_n 1, 1) := by decide +kernel
theorem dc_Q_init_13 : decode cb_Q_init 13 = .ok (.newarray .int, 2) := by decide +kernel
theorem dc_Q_init_15 : decode cb_Q_init 15 = .ok (.putfield 15, 3) := by decide +kernel
theorem dc_Q_init_18 : decode cb_Q_init 18 = .ok (.return_, 1) := by decide +kernel
theorem dc_M_init_0 : decode cb_M_init 0 = .ok (.aload_n 0, 1) := by decide +kernel
theorem dc_M_init_1 : decode cb_M_init 1 = .ok (.invokespecial 3, 3) := by decide +kernel
theorem dc_M_init_4 : decode cb_M_init 4 = .ok (.aload_n 0, 1) := by decide +kernel
theorem dc_M_init_5 : decode cb_M_init 5 = .ok (.new 9, 3) := by decide +kernel
theorem dc_M_init_8 : decode cb_M_init 8 = .ok (.dup, 1) := by decide +kernel
theorem dc_M_init_9 : decode cb_M_init 9 = .ok (.invokespecial 11, 3) := by decide +kernel
theorem dc_M_init_12 : decode cb_M_init 12 = .ok (.putfield 12, 3) := by decide +kernel
theorem dc_M_init_15 : decode cb_M_init 15 = .ok (.aload_n 0, 1) := by decide +kernel
theorem dc_M_init_16 : decode cb_M_init 16 = .ok (.iconst (-1), 1) := by decide +kernel
theorem dc_M_init_17 : decode cb_M_init 17 = .ok (.putfield 18, 3) := by decide +kernel
theorem dc_M_init_20 : decode cb_M_init 20 = .ok (.return_, 1) := by decide +kernel
theorem dc_S_init_0 : decode cb_S_init 0 = .ok (.aload_n 0, 1) := by decide +kernel
theorem dc_S_init_1 : decode cb_S_init 1 = .ok (.invokespecial 3, 3) := by decide +kernel
theorem dc_S_init_4 : decode cb_S_init 4 = .ok (.aload_n 0, 1) := by decide +kernel
theorem dc_S_init_5 : decode cb_S_init 5 = .ok (.new 9, 3) := by decide +kernel
theorem dc_S_init_8 : decode cb_S_init 8 = .ok (.dup, 1) := by decide +kernel
theorem dc_S_init_9 : decode cb_S_init 9 = .ok (.invokespecial 11, 3) := by decide +kernel
theorem dc_S_init_12 : decode cb_S_init 12 = .ok (.putfield 12, 3) := by decide +kernel
theorem dc_S_init_15 : decode cb_S_init 15 = .ok (.aload_n 0, 1) := by decide +kernel
theorem dc_S_init_16 : decode cb_S_init 16 = .ok (.new 18, 3) := by decide +kernel
theorem dc_S_init_19 : decode cb_S_init 19 = .ok (.dup, 1) := by decide +kernel
theorem dc_S_init_20 : decode cb_S_init 20 = .ok (.bipush 12, 2) := by decide +kernel
theorem dc_S_init_22 : decode cb_S_init 22 = .ok (.invokespecial 20, 3) := by decide +kernel
theorem dc_S_init_25 : decode cb_S_init 25 = .ok (.putfield 23, 3) := by decide +kernel
theorem dc_S_init_28 : decode cb_S_init 28 = .ok (.aload_n 0, 1) := by decide +kernel
theorem dc_S_init_29 : decode cb_S_init 29 = .ok (.new 18, 3) := by decide +kernel
theorem dc_S_init_32 : decode cb_S_init 32 = .ok (.dup, 1) := by decide +kernel
theorem dc_S_init_33 : decode cb_S_init 33 = .ok (.iconst 4, 1) := by decide +kernel
theorem dc_S_init_34 : decode cb_S_init 34 = .ok (.invokespecial 20, 3) := by decide +kernel
theorem dc_S_init_37 : decode cb_S_init 37 = .ok (.putfield 27, 3) := by decide +kernel
theorem dc_S_init_40 : decode cb_S_init 40 = .ok (.aload_n 0, 1) := by decide +kernel
theorem dc_S_init_41 : decode cb_S_init 41 = .ok (.new 30, 3) := by decide +kernel
theorem dc_S_init_44 : decode cb_S_init 44 = .ok (.dup, 1) := by decide +kernel
theorem dc_S_init_45 : decode cb_S_init 45 = .ok (.invokespecial 32, 3) := by decide +kernel
theorem dc_S_init_48 : decode cb_S_init 48 = .ok (.putfield 33, 3) := by decide +kernel
theorem dc_S_init_51 : decode cb_S_init 51 = .ok (.aload_n 0, 1) := by decide +kernel
theorem dc_S_init_52 : decode cb_S_init 52 = .ok (.iconst 0, 1) := by decide +kernel
theorem dc_S_init_53 : decode cb_S_init 53 = .ok (.putfield 37, 3) := by decide +kernel
theorem dc_S_init_56 : decode cb_S_init 56 = .ok (.aload_n 0, 1) := by decide +kernel
theorem dc_S_init_57 : decode cb_S_init 57 = .ok (.bipush 24, 2) := by decide +kernel
theorem dc_S_init_59 : decode cb_S_init 59 = .ok (.putfield 41, 3) := by decide +kernel
theorem dc_S_init_62 : decode cb_S_init 62 = .ok (.aload_n 0, 1) := by decide +kernel
theorem dc_S_init_63 : decode cb_S_init 63 = .ok (.iload_n 1, 1) := by decide +kernel
theorem dc_S_init_64 : decode cb_S_init 64 = .ok (.putfield 44, 3) := by decide +kernel
theorem dc_S_init_67 : decode cb_S_init 67 = .ok (.return_, 1) := by decide +kernel
theorem dc_H_init_0 : decode cb_H_init 0 = .ok (.aload_n 0, 1) := by decide +kernel
theorem dc_H_init_1 : decode cb_H_init 1 = .ok (.invokespecial 1, 3) := by decide +kernel
theorem dc_H_init_4 : decode cb_H_init 4 = .ok (.aload_n 0, 1) := by decide +kernel
theorem dc_H_init_5 : decode cb_H_init 5 = .ok (.iconst 5, 1) := by decide +kernel
theorem dc_H_init_6 : decode cb_H_init 6 = .ok (.anewarray 9, 3) := by decide +kernel
theorem dc_H_init_9 : decode cb_H_init 9 = .ok (.putfield 11, 3) := by decide +kernel
theorem dc_H_init_12 : decode cb_H_init 12 = .ok (.iconst 0, 1) := by decide +kernel
theorem dc_H_init_13 : decode cb_H_init 13 = .ok (.istore_n 1, 1) := by decide +kernel
theorem dc_H_init_14 : decode cb_H_init 14 = .ok (.iload_n 1, 1) := by decide +kernel
theorem dc_H_init_15 : decode cb_H_init 15 = .ok (.iconst 5, 1) := by decide +kernel
theorem dc_H_init_16 : decode cb_H_init 16 = .ok (.if_icmp .ge 23, 3) := by decide +kernel
theorem dc_H_init_19 : decode cb_H_init 19 = .ok (.aload_n 0, 1) := by decide +kernel
theorem dc_H_init_20 : decode cb_H_init 20 = .ok (.getfield 11, 3) := by decide +kernel
theorem dc_H_init_23 : decode cb_H_init 23 = .ok (.iload_n 1, 1) := by decide +kernel
theorem dc_H_init_24 : decode cb_H_init 24 = .ok (.new 9, 3) := by decide +kernel
theorem dc_H_init_27 : decode cb_H_init 27 = .ok (.dup, 1) := by decide +kernel
theorem dc_H_init_28 : decode cb_H_init 28 = .ok (.iload_n 1, 1) := by decide +kernel
theorem dc_H_init_29 : decode cb_H_init 29 = .ok (.invokespecial 15, 3) := by decide +kernel
theorem dc_H_init_32 : decode cb_H_init 32 = .ok (.aastore, 1) := by decide +kernel
theorem dc_H_init_33 : decode cb_H_init 33 = .ok (.iinc 1 1, 3) := by decide +kernel
theorem dc_H_init_36 : decode cb_H_init 36 = .ok (.goto (-22), 3) := by decide +kernel
theorem dc_H_init_39 : decode cb_H_init 39 = .ok (.aload_n 0, 1) := by decide +kernel
theorem dc_H_init_40 : decode cb_H_init 40 = .ok (.iconst 3, 1) := by decide +kernel
theorem dc_H_init_41 : decode cb_H_init 41 = .ok (.anewarray 18, 3) := by decide +kernel
theorem dc_H_init_44 : decode cb_H_init 44 = .ok (.putfield 20, 3) := by decide +kernel
theorem dc_H_init_47 : decode cb_H_init 47 = .ok (.iconst 0, 1) := by decide +kernel
theorem dc_H_init_48 : decode cb_H_init 48 = .ok (.istore_n 1, 1) := by decide +kernel
theorem dc_H_init_49 : decode cb_H_init 49 = .ok (.iload_n 1, 1) := by decide +kernel
theorem dc_H_init_50 : decode cb_H_init 50 = .ok (.iconst 3, 1) := by decide +kernel
theorem dc_H_init_51 : decode cb_H_init 51 = .ok (.if_icmp .ge 22, 3) := by decide +kernel
theorem dc_H_init_54 : decode cb_H_init 54 = .ok (.aload_n 0, 1) := by decide +kernel
theorem dc_H_init_55 : decode cb_H_init 55 = .ok (.getfield 20, 3) := by decide +kernel
theorem dc_H_init_58 : decode cb_H_init 58 = .ok (.iload_n 1, 1) := by decide +kernel
theorem dc_H_init_59 : decode cb_H_init 59 = .ok (.new 18, 3) := by decide +kernel
theorem dc_H_init_62 : decode cb_H_init 62 = .ok (.dup, 1) := by decide +kernel
theorem dc_H_init_63 : decode cb_H_init 63 = .ok (.invokespecial 24, 3) := by decide +kernel
theorem dc_H_init_66 : decode cb_H_init 66 = .ok (.aastore, 1) := by decide +kernel
theorem dc_H_init_67 : decode cb_H_init 67 = .ok (.iinc 1 1, 3) := by decide +kernel
theorem dc_H_init_70 : decode cb_H_init 70 = .ok (.goto (-21), 3) := by decide +kernel
theorem dc_H_init_73 : decode cb_H_init 73 = .ok (.aload_n 0, 1) := by decide +kernel
theorem dc_H_init_74 : decode cb_H_init 74 = .ok (.iconst 3, 1) := by decide +kernel
theorem dc_H_init_75 : decode cb_H_init 75 = .ok (.anewarray 25, 3) := by decide +kernel
theorem dc_H_init_78 : decode cb_H_init 78 = .ok (.putfield 27, 3) := by decide +kernel
theorem dc_H_init_81 : decode cb_H_init 81 = .ok (.iconst 0, 1) := by decide +kernel
theorem dc_H_init_82 : decode cb_H_init 82 = .ok (.istore_n 1, 1) := by decide +kernel
theorem dc_H_init_83 : decode cb_H_init 83 = .ok (.iload_n 1, 1) := by decide +kernel
theorem dc_H_init_84 : decode cb_H_init 84 = .ok (.iconst 3, 1) := by decide +kernel
theorem dc_H_init_85 : decode cb_H_init 85 = .ok (.if_icmp .ge 22, 3) := by decide +kernel
theorem dc_H_init_88 : decode cb_H_init 88 = .ok (.aload_n 0, 1) := by decide +kernel
theorem dc_H_init_89 : decode cb_H_init 89 = .ok (.getfield 27, 3) := by decide +kernel
theorem dc_H_init_92 : decode cb_H_init 92 = .ok (.iload_n 1, 1) := by decide +kernel
theorem dc_H_init_93 : decode cb_H_init 93 = .ok (.new 25, 3) := by decide +kernel
theorem dc_H_init_96 : decode cb_H_init 96 = .ok (.dup, 1) := by decide +kernel
theorem dc_H_init_97 : decode cb_H_init 97 = .ok (.invokespecial 31, 3) := by decide +kernel
theorem dc_H_init_100 : decode cb_H_init 100 = .ok (.aastore, 1) := by decide +kernel
theorem dc_H_init_101 : decode cb_H_init 101 = .ok (.iinc 1 1, 3) := by decide +kernel
theorem dc_H_init_104 : decode cb_H_init 104 = .ok (.goto (-21), 3) := by decide +kernel
theorem dc_H_init_107 : decode cb_H_init 107 = .ok (.aload_n 0, 1) := by decide +kernel
theorem dc_H_init_108 : decode cb_H_init 108 = .ok (.iconst 4, 1) := by decide +kernel
theorem dc_H_init_109 : decode cb_H_init 109 = .ok (.newarray .int, 2) := by decide +kernel
theorem dc_H_init_111 : decode cb_H_init 111 = .ok (.putfield 32, 3) := by decide +kernel
theorem dc_H_init_114 : decode cb_H_init 114 = .ok (.aload_n 0, 1) := by decide +kernel
theorem dc_H_init_115 : decode cb_H_init 115 = .ok (.bipush 40, 2) := by decide +kernel
theorem dc_H_init_117 : decode cb_H_init 117 = .ok (.newarray .int, 2) := by decide +kernel
theorem dc_H_init_119 : decode cb_H_init 119 = .ok (.putfield 36, 3) := by decide +kernel
theorem dc_H_init_122 : decode cb_H_init 122 = .ok (.aload_n 0, 1) := by decide +kernel
theorem dc_H_init_123 : decode cb_H_init 123 = .ok (.iconst 4, 1) := by decide +kernel
theorem dc_H_init_124 : decode cb_H_init 124 = .ok (.putfield 39, 3) := by decide +kernel
theorem dc_H_init_127 : decode cb_H_init 127 = .ok (.aload_n 0, 1) := by decide +kernel
theorem dc_H_init_128 : decode cb_H_init 128 = .ok (.iconst (-1), 1) := by decide +kernel
theorem dc_H_init_129 : decode cb_H_init 129 = .ok (.putfield 43, 3) := by decide +kernel
theorem dc_H_init_132 : decode cb_H_init 132 = .ok (.return_, 1) := by decide +kernel
theorem dc_O_init_0 : decode cb_O_init 0 = .ok (.aload_n 0, 1) := by decide +kernel
theorem dc_O_init_1 : decode cb_O_init 1 = .ok (.invokespecial 1, 3) := by decide +kernel
theorem dc_O_init_4 : decode cb_O_init 4 = .ok (.aload_n 0, 1) := by decide +kernel
theorem dc_O_init_5 : decode cb_O_init 5 = .ok (.bipush 120, 2) := by decide +kernel
theorem dc_O_init_7 : decode cb_O_init 7 = .ok (.newarray .int, 2) := by decide +kernel
theorem dc_O_init_9 : decode cb_O_init 9 = .ok (.putfield 7, 3) := by decide +kernel
theorem dc_O_init_12 : decode cb_O_init 12 = .ok (.aload_n 0, 1) := by decide +kernel
theorem dc_O_init_13 : decode cb_O_init 13 = .ok (.bipush 120, 2) := by decide +kernel
theorem dc_O_init_15 : decode cb_O_init 15 = .ok (.newarray .int, 2) := by decide +kernel
theorem dc_O_init_17 : decode cb_O_init 17 = .ok (.putfield 13, 3) := by decide +kernel
theorem dc_O_init_20 : decode cb_O_init 20 = .ok (.aload_n 0, 1) := by decide +kernel
theorem dc_O_init_21 : decode cb_O_init 21 = .ok (.bipush 120, 2) := by decide +kernel
theorem dc_O_init_23 : decode cb_O_init 23 = .ok (.newarray .int, 2) := by decide +kernel
theorem dc_O_init_25 : decode cb_O_init 25 = .ok (.putfield 16, 3) := by decide +kernel
theorem dc_O_init_28 : decode cb_O_init 28 = .ok (.aload_n 0, 1) := by decide +kernel
theorem dc_O_init_29 : decode cb_O_init 29 = .ok (.iconst 5, 1) := by decide +kernel
theorem dc_O_init_30 : decode cb_O_init 30 = .ok (.newarray .int, 2) := by decide +kernel
theorem dc_O_init_32 : decode cb_O_init 32 = .ok (.putfield 19, 3) := by decide +kernel
theorem dc_O_init_35 : decode cb_O_init 35 = .ok (.aload_n 0, 1) := by decide +kernel
theorem dc_O_init_36 : decode cb_O_init 36 = .ok (.iconst 4, 1) := by decide +kernel
theorem dc_O_init_37 : decode cb_O_init 37 = .ok (.newarray .int, 2) := by decide +kernel
theorem dc_O_init_39 : decode cb_O_init 39 = .ok (.putfield 22, 3) := by decide +kernel
theorem dc_O_init_42 : decode cb_O_init 42 = .ok (.aload_n 0, 1) := by decide +kernel
theorem dc_O_init_43 : decode cb_O_init 43 = .ok (.bipush 60, 2) := by decide +kernel
theorem dc_O_init_45 : decode cb_O_init 45 = .ok (.newarray .int, 2) := by decide +kernel
theorem dc_O_init_47 : decode cb_O_init 47 = .ok (.putfield 25, 3) := by decide +kernel
theorem dc_O_init_50 : decode cb_O_init 50 = .ok (.aload_n 0, 1) := by decide +kernel
theorem dc_O_init_51 : decode cb_O_init 51 = .ok (.bipush 60, 2) := by decide +kernel
theorem dc_O_init_53 : decode cb_O_init 53 = .ok (.newarray .int, 2) := by decide +kernel
theorem dc_O_init_55 : decode cb_O_init 55 = .ok (.putfield 28, 3) := by decide +kernel
theorem dc_O_init_58 : decode cb_O_init 58 = .ok (.aload_n 0, 1) := by decide +kernel
theorem dc_O_init_59 : decode cb_O_init 59 = .ok (.iconst 5, 1) := by decide +kernel
theorem dc_O_init_60 : decode cb_O_init 60 = .ok (.newarray .int, 2) := by decide +kernel
theorem dc_O_init_62 : decode cb_O_init 62 = .ok (.putfield 31, 3) := by decide +kernel
theorem dc_O_init_65 : decode cb_O_init 65 = .ok (.aload_n 0, 1) := by decide +kernel
theorem dc_O_init_66 : decode cb_O_init 66 = .ok (.bipush 20, 2) := by decide +kernel
theorem dc_O_init_68 : decode cb_O_init 68 = .ok (.newarray .int, 2) := by decide +kernel
theorem dc_O_init_70 : decode cb_O_init 70 = .ok (.putfield 34, 3) := by decide +kernel
theorem dc_O_init_73 : decode cb_O_init 73 = .ok (.aload_n 0, 1) := by decide +kernel
theorem dc_O_init_74 : decode cb_O_init 74 = .ok (.bipush 20, 2) := by decide +kernel
theorem dc_O_init_76 : decode cb_O_init 76 = .ok (.newarray .int, 2) := by decide +kernel
theorem dc_O_init_78 : decode cb_O_init 78 = .ok (.putfield 37, 3) := by decide +kernel
theorem dc_O_init_81 : decode cb_O_init 81 = .ok (.aload_n 0, 1) := by decide +kernel
theorem dc_O_init_82 : decode cb_O_init 82 = .ok (.iconst 5, 1) := by decide +kernel
theorem dc_O_init_83 : decode cb_O_init 83 = .ok (.newarray .int, 2) := by decide +kernel
theorem dc_O_init_85 : decode cb_O_init 85 = .ok (.putfield 40, 3) := by decide +kernel
theorem dc_O_init_88 : decode cb_O_init 88 = .ok (.aload_n 0, 1) := by decide +kernel
theorem dc_O_init_89 : decode cb_O_init 89 = .ok (.iconst 5, 1) := by decide +kernel
theorem dc_O_init_90 : decode cb_O_init 90 = .ok (.newarray .int, 2) := by decide +kernel
theorem dc_O_init_92 : decode cb_O_init 92 = .ok (.putfield 43, 3) := by decide +kernel
theorem dc_O_init_95 : decode cb_O_init 95 = .ok (.aload_n 0, 1) := by decide +kernel
theorem dc_O_init_96 : decode cb_O_init 96 = .ok (.iconst 5, 1) := by decide +kernel
theorem dc_O_init_97 : decode cb_O_init 97 = .ok (.newarray .int, 2) := by decide +kernel
theorem dc_O_init_99 : decode cb_O_init 99 = .ok (.putfield 46, 3) := by decide +kernel
theorem dc_O_init_102 : decode cb_O_init 102 = .ok (.aload_n 0, 1) := by decide +kernel
theorem dc_O_init_103 : decode cb_O_init 103 = .ok (.iconst 5, 1) := by decide +kernel
theorem dc_O_init_104 : decode cb_O_init 104 = .ok (.newarray .int, 2) := by decide +kernel
theorem dc_O_init_106 : decode cb_O_init 106 = .ok (.putfield 49, 3) := by decide +kernel
theorem dc_O_init_109 : decode cb_O_init 109 = .ok (.aload_n 0, 1) := by decide +kernel
theorem dc_O_init_110 : decode cb_O_init 110 = .ok (.iconst 5, 1) := by decide +kernel
theorem dc_O_init_111 : decode cb_O_init 111 = .ok (.newarray .int, 2) := by decide +kernel
theorem dc_O_init_113 : decode cb_O_init 113 = .ok (.putfield 52, 3) := by decide +kernel
theorem dc_O_init_116 : decode cb_O_init 116 = .ok (.aload_n 0, 1) := by decide +kernel
theorem dc_O_init_117 : decode cb_O_init 117 = .ok (.iconst 5, 1) := by decide +kernel
theorem dc_O_init_118 : decode cb_O_init 118 = .ok (.newarray .int, 2) := by decide +kernel
theorem dc_O_init_120 : decode cb_O_init 120 = .ok (.putfield 55, 3) := by decide +kernel
theorem dc_O_init_123 : decode cb_O_init 123 = .ok (.aload_n 0, 1) := by decide +kernel
theorem dc_O_init_124 : decode cb_O_init 124 = .ok (.iconst 5, 1) := by decide +kernel
theorem dc_O_init_125 : decode cb_O_init 125 = .ok (.newarray .int, 2) := by decide +kernel
theorem dc_O_init_127 : decode cb_O_init 127 = .ok (.putfield 58, 3) := by decide +kernel
theorem dc_O_init_130 : decode cb_O_init 130 = .ok (.aload_n 0, 1) := by decide +kernel
theorem dc_O_init_131 : decode cb_O_init 131 = .ok (.iconst 5, 1) := by decide +kernel
theorem dc_O_init_132 : decode cb_O_init 132 = .ok (.newarray .int, 2) := by decide +kernel
theorem dc_O_init_134 : decode cb_O_init 134 = .ok (.putfield 61, 3) := by decide +kernel
theorem dc_O_init_137 : decode cb_O_init 137 = .ok (.aload_n 0, 1) := by decide +kernel
theorem dc_O_init_138 : decode cb_O_init 138 = .ok (.iconst 5, 1) := by decide +kernel
theorem dc_O_init_139 : decode cb_O_init 139 = .ok (.newarray .int, 2) := by decide +kernel
theorem dc_O_init_141 : decode cb_O_init 141 = .ok (.putfield 64, 3) := by decide +kernel
theorem dc_O_init_144 : decode cb_O_init 144 = .ok (.aload_n 0, 1) := by decide +kernel
theorem dc_O_init_145 : decode cb_O_init 145 = .ok (.iconst 5, 1) := by decide +kernel
theorem dc_O_init_146 : decode cb_O_init 146 = .ok (.newarray .int, 2) := by decide +kernel
theorem dc_O_init_148 : decode cb_O_init 148 = .ok (.putfield 67, 3) := by decide +kernel
theorem dc_O_init_151 : decode cb_O_init 151 = .ok (.aload_n 0, 1) := by decide +kernel
theorem dc_O_init_152 : decode cb_O_init 152 = .ok (.iconst 5, 1) := by decide +kernel
theorem dc_O_init_153 : decode cb_O_init 153 = .ok (.newarray .int, 2) := by decide +kernel
theorem dc_O_init_155 : decode cb_O_init 155 = .ok (.putfield 70, 3) := by decide +kernel
theorem dc_O_init_158 : decode cb_O_init 158 = .ok (.aload_n 0, 1) := by decide +kernel
theorem dc_O_init_159 : decode cb_O_init 159 = .ok (.iconst 5, 1) := by decide +kernel
theorem dc_O_init_160 : decode cb_O_init 160 = .ok (.newarray .boolean, 2) := by decide +kernel
theorem dc_O_init_162 : decode cb_O_init 162 = .ok (.putfield 73, 3) := by decide +kernel
theorem dc_O_init_165 : decode cb_O_init 165 = .ok (.aload_n 0, 1) := by decide +kernel
theorem dc_O_init_166 : decode cb_O_init 166 = .ok (.iconst 5, 1) := by decide +kernel
theorem dc_O_init_167 : decode cb_O_init 167 = .ok (.newarray .boolean, 2) := by decide +kernel
theorem dc_O_init_169 : decode cb_O_init 169 = .ok (.putfield 77, 3) := by decide +kernel
theorem dc_O_init_172 : decode cb_O_init 172 = .ok (.aload_n 0, 1) := by decide +kernel
theorem dc_O_init_173 : decode cb_O_init 173 = .ok (.iconst 3, 1) := by decide +kernel
theorem dc_O_init_174 : decode cb_O_init 174 = .ok (.newarray .int, 2) := by decide +kernel
theorem dc_O_init_176 : decode cb_O_init 176 = .ok (.putfield 80, 3) := by decide +kernel
theorem dc_O_init_179 : decode cb_O_init 179 = .ok (.aload_n 0, 1) := by decide +kernel
theorem dc_O_init_180 : decode cb_O_init 180 = .ok (.iconst 3, 1) := by decide +kernel
theorem dc_O_init_181 : decode cb_O_init 181 = .ok (.newarray .int, 2) := by decide +kernel
theorem dc_O_init_183 : decode cb_O_init 183 = .ok (.putfield 83, 3) := by decide +kernel
theorem dc_O_init_186 : decode cb_O_init 186 = .ok (.aload_n 0, 1) := by decide +kernel
theorem dc_O_init_187 : decode cb_O_init 187 = .ok (.bipush 15, 2) := by decide +kernel
theorem dc_O_init_189 : decode cb_O_init 189 = .ok (.newarray .int, 2) := by decide +kernel
theorem dc_O_init_191 : decode cb_O_init 191 = .ok (.putfield 86, 3) := by decide +kernel
theorem dc_O_init_194 : decode cb_O_init 194 = .ok (.aload_n 0, 1) := by decide +kernel
theorem dc_O_init_195 : decode cb_O_init 195 = .ok (.iconst 3, 1) := by decide +kernel
theorem dc_O_init_196 : decode cb_O_init 196 = .ok (.newarray .int, 2) := by decide +kernel
theorem dc_O_init_198 : decode cb_O_init 198 = .ok (.putfield 89, 3) := by decide +kernel
theorem dc_O_init_201 : decode cb_O_init 201 = .ok (.aload_n 0, 1) := by decide +kernel
theorem dc_O_init_202 : decode cb_O_init 202 = .ok (.bipush 15, 2) := by decide +kernel
theorem dc_O_init_204 : decode cb_O_init 204 = .ok (.newarray .int, 2) := by decide +kernel
theorem dc_O_init_206 : decode cb_O_init 206 = .ok (.putfield 92, 3) := by decide +kernel
theorem dc_O_init_209 : decode cb_O_init 209 = .ok (.aload_n 0, 1) := by decide +kernel
theorem dc_O_init_210 : decode cb_O_init 210 = .ok (.iconst 3, 1) := by decide +kernel
theorem dc_O_init_211 : decode cb_O_init 211 = .ok (.newarray .int, 2) := by decide +kernel
theorem dc_O_init_213 : decode cb_O_init 213 = .ok (.putfield 95, 3) := by decide +kernel
theorem dc_O_init_216 : decode cb_O_init 216 = .ok (.aload_n 0, 1) := by decide +kernel
theorem dc_O_init_217 : decode cb_O_init 217 = .ok (.bipush 25, 2) := by decide +kernel
theorem dc_O_init_219 : decode cb_O_init 219 = .ok (.newarray .int, 2) := by decide +kernel
theorem dc_O_init_221 : decode cb_O_init 221 = .ok (.putfield 98, 3) := by decide +kernel
theorem dc_O_init_224 : decode cb_O_init 224 = .ok (.aload_n 0, 1) := by decide +kernel
theorem dc_O_init_225 : decode cb_O_init 225 = .ok (.iconst 5, 1) := by decide +kernel
theorem dc_O_init_226 : decode cb_O_init 226 = .ok (.newarray .int, 2) := by decide +kernel
theorem dc_O_init_228 : decode cb_O_init 228 = .ok (.putfield 101, 3) := by decide +kernel
theorem dc_O_init_231 : decode cb_O_init 231 = .ok (.aload_n 0, 1) := by decide +kernel
theorem dc_O_init_232 : decode cb_O_init 232 = .ok (.bipush 40, 2) := by decide +kernel
theorem dc_O_init_234 : decode cb_O_init 234 = .ok (.newarray .int, 2) := by decide +kernel
theorem dc_O_init_236 : decode cb_O_init 236 = .ok (.putfield 104, 3) := by decide +kernel
theorem dc_O_init_239 : decode cb_O_init 239 = .ok (.aload_n 0, 1) := by decide +kernel
theorem dc_O_init_240 : decode cb_O_init 240 = .ok (.bipush 8, 2) := by decide +kernel
theorem dc_O_init_242 : decode cb_O_init 242 = .ok (.newarray .int, 2) := by decide +kernel
theorem dc_O_init_244 : decode cb_O_init 244 = .ok (.putfield 107, 3) := by decide +kernel
theorem dc_O_init_247 : decode cb_O_init 247 = .ok (.aload_n 0, 1) := by decide +kernel
theorem dc_O_init_248 : decode cb_O_init 248 = .ok (.iconst 4, 1) := by decide +kernel
theorem dc_O_init_249 : decode cb_O_init 249 = .ok (.putfield 110, 3) := by decide +kernel
theorem dc_O_init_252 : decode cb_O_init 252 = .ok (.iconst 0, 1) := by decide +kernel
theorem dc_O_init_253 : decode cb_O_init 253 = .ok (.istore_n 1, 1) := by decide +kernel
theorem dc_O_init_254 : decode cb_O_init 254 = .ok (.iload_n 1, 1) := by decide +kernel
theorem dc_O_init_255 : decode cb_O_init 255 = .ok (.iconst 3, 1) := by decide +kernel
theorem dc_O_init_256 : decode cb_O_init 256 = .ok (.if_icmp .ge 16, 3) := by decide +kernel
theorem dc_O_init_259 : decode cb_O_init 259 = .ok (.aload_n 0, 1) := by decide +kernel
theorem dc_O_init_260 : decode cb_O_init 260 = .ok (.getfield 80, 3) := by decide +kernel
theorem dc_O_init_263 : decode cb_O_init 263 = .ok (.iload_n 1, 1) := by decide +kernel
theorem dc_O_init_264 : decode cb_O_init 264 = .ok (.iconst (-1), 1) := by decide +kernel
theorem dc_O_init_265 : decode cb_O_init 265 = .ok (.iastore, 1) := by decide +kernel
theorem dc_O_init_266 : decode cb_O_init 266 = .ok (.iinc 1 1, 3) := by decide +kernel
theorem dc_O_init_269 : decode cb_O_init 269 = .ok (.goto (-15), 3) := by decide +kernel
theorem dc_O_init_272 : decode cb_O_init 272 = .ok (.iconst 0, 1) := by decide +kernel
theorem dc_O_init_273 : decode cb_O_init 273 = .ok (.istore_n 1, 1) := by decide +kernel
theorem dc_O_init_274 : decode cb_O_init 274 = .ok (.iload_n 1, 1) := by decide +kernel
theorem dc_O_init_275 : decode cb_O_init 275 = .ok (.iconst 5, 1) := by decide +kernel
theorem dc_O_init_276 : decode cb_O_init 276 = .ok (.if_icmp .ge 17, 3) := by decide +kernel
theorem dc_O_init_279 : decode cb_O_init 279 = .ok (.aload_n 0, 1) := by decide +kernel
theorem dc_O_init_280 : decode cb_O_init 280 = .ok (.getfield 52, 3) := by decide +kernel
theorem dc_O_init_283 : decode cb_O_init 283 = .ok (.iload_n 1, 1) := by decide +kernel
theorem dc_O_init_284 : decode cb_O_init 284 = .ok (.bipush 24, 2) := by decide +kernel
theorem dc_O_init_286 : decode cb_O_init 286 = .ok (.iastore, 1) := by decide +kernel
theorem dc_O_init_287 : decode cb_O_init 287 = .ok (.iinc 1 1, 3) := by decide +kernel
theorem dc_O_init_290 : decode cb_O_init 290 = .ok (.goto (-16), 3) := by decide +kernel
theorem dc_O_init_293 : decode cb_O_init 293 = .ok (.aload_n 0, 1) := by decide +kernel
theorem dc_O_init_294 : decode cb_O_init 294 = .ok (.getfield 107, 3) := by decide +kernel
theorem dc_O_init_297 : decode cb_O_init 297 = .ok (.bipush 6, 2) := by decide +kernel
theorem dc_O_init_299 : decode cb_O_init 299 = .ok (.iconst (-1), 1) := by decide +kernel
theorem dc_O_init_300 : decode cb_O_init 300 = .ok (.iastore, 1) := by decide +kernel
theorem dc_O_init_301 : decode cb_O_init 301 = .ok (.return_, 1) := by decide +kernel
