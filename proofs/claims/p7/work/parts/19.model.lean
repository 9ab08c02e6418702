set_option maxRecDepth 100000 in
set_option maxHeartbeats 4000000 in
theorem k_O (l : Launch) (hl : l.stackTraces = false) : th_F l yn_O_init cb_O_init 2 none { frames := 1, cells := 33, slots := 719, locals := 13 } [.inr (some (20, 0))] hm_47 (th_fin hm_123) := by
  refine th_of hl (by decide +kernel) (Nat.le_of_ble_eq_true rfl) (fun z C hQ hN => ?_)
  refine th_aload_n C dc_O_init_0 rfl rfl ?_
  refine th_objInit C dc_O_init_1 (tb 627 (by decide +kernel) rfl) oi_1 oi_2 (by decide) (Nat.le_of_ble_eq_true rfl) ?_
  refine th_aload_n C dc_O_init_4 rfl rfl ?_
  refine th_bipush (v := 120) C dc_O_init_5 th_b_120 ?_
  refine th_newa (mu := hm_47) (t := 21) (i := 0) (N := 120) (n := 87) C dc_O_init_7 (Or.inl ⟨rfl, rfl⟩) rfl (fun _ => rfl) ac_int (by decide) (by decide) (by decide) (by decide +kernel) (by decide +kernel) (by decide) (by decide +kernel) (by rw [hc_47.1]; rfl) (fun k => (hc_47.2 21 0 k (by decide +kernel)).1) (by decide) (by decide) ?_
  change th_G l z _ _ _ _ hm_48 _ _
  refine th_putR (mu := hm_48) C dc_O_init_9 cl_20 fd_O_7 (by decide +kernel) rfl rfl hN rfl rfl (fun _ => rfl) (fun _ => rfl) ?_
  change th_G l z _ _ _ _ hm_49 _ _
  refine th_aload_n C dc_O_init_12 rfl rfl ?_
  refine th_bipush (v := 120) C dc_O_init_13 th_b_120 ?_
  refine th_newa (mu := hm_49) (t := 22) (i := 0) (N := 120) (n := 88) C dc_O_init_15 (Or.inl ⟨rfl, rfl⟩) rfl (fun _ => rfl) ac_int (by decide) (by decide) (by decide) (by decide +kernel) (by decide +kernel) (by decide) (by decide +kernel) (by rw [hc_49.1]; rfl) (fun k => (hc_49.2 22 0 k (by decide +kernel)).1) (by decide) (by decide) ?_
  change th_G l z _ _ _ _ hm_50 _ _
  refine th_putR (mu := hm_50) C dc_O_init_17 cl_20 fd_O_13 (by decide +kernel) rfl rfl hN rfl rfl (fun _ => rfl) (fun _ => rfl) ?_
  change th_G l z _ _ _ _ hm_51 _ _
  refine th_aload_n C dc_O_init_20 rfl rfl ?_
  refine th_bipush (v := 120) C dc_O_init_21 th_b_120 ?_
  refine th_newa (mu := hm_51) (t := 23) (i := 0) (N := 120) (n := 89) C dc_O_init_23 (Or.inl ⟨rfl, rfl⟩) rfl (fun _ => rfl) ac_int (by decide) (by decide) (by decide) (by decide +kernel) (by decide +kernel) (by decide) (by decide +kernel) (by rw [hc_51.1]; rfl) (fun k => (hc_51.2 23 0 k (by decide +kernel)).1) (by decide) (by decide) ?_
  change th_G l z _ _ _ _ hm_52 _ _
  refine th_putR (mu := hm_52) C dc_O_init_25 cl_20 fd_O_16 (by decide +kernel) rfl rfl hN rfl rfl (fun _ => rfl) (fun _ => rfl) ?_
  change th_G l z _ _ _ _ hm_53 _ _
  refine th_aload_n C dc_O_init_28 rfl rfl ?_
  refine th_iconst (v := 5) C dc_O_init_29 th_c_5 ?_
  refine th_newa (mu := hm_53) (t := 24) (i := 0) (N := 5) (n := 90) C dc_O_init_30 (Or.inl ⟨rfl, rfl⟩) rfl (fun _ => rfl) ac_int (by decide) (by decide) (by decide) (by decide +kernel) (by decide +kernel) (by decide) (by decide +kernel) (by rw [hc_53.1]; rfl) (fun k => (hc_53.2 24 0 k (by decide +kernel)).1) (by decide) (by decide) ?_
  change th_G l z _ _ _ _ hm_54 _ _
  refine th_putR (mu := hm_54) C dc_O_init_32 cl_20 fd_O_19 (by decide +kernel) rfl rfl hN rfl rfl (fun _ => rfl) (fun _ => rfl) ?_
  change th_G l z _ _ _ _ hm_55 _ _
  refine th_aload_n C dc_O_init_35 rfl rfl ?_
  refine th_iconst (v := 4) C dc_O_init_36 th_c_4 ?_
  refine th_newa (mu := hm_55) (t := 25) (i := 0) (N := 4) (n := 91) C dc_O_init_37 (Or.inl ⟨rfl, rfl⟩) rfl (fun _ => rfl) ac_int (by decide) (by decide) (by decide) (by decide +kernel) (by decide +kernel) (by decide) (by decide +kernel) (by rw [hc_55.1]; rfl) (fun k => (hc_55.2 25 0 k (by decide +kernel)).1) (by decide) (by decide) ?_
  change th_G l z _ _ _ _ hm_56 _ _
  refine th_putR (mu := hm_56) C dc_O_init_39 cl_20 fd_O_22 (by decide +kernel) rfl rfl hN rfl rfl (fun _ => rfl) (fun _ => rfl) ?_
  change th_G l z _ _ _ _ hm_57 _ _
  refine th_aload_n C dc_O_init_42 rfl rfl ?_
  refine th_bipush (v := 60) C dc_O_init_43 th_b_60 ?_
  refine th_newa (mu := hm_57) (t := 26) (i := 0) (N := 60) (n := 92) C dc_O_init_45 (Or.inl ⟨rfl, rfl⟩) rfl (fun _ => rfl) ac_int (by decide) (by decide) (by decide) (by decide +kernel) (by decide +kernel) (by decide) (by decide +kernel) (by rw [hc_57.1]; rfl) (fun k => (hc_57.2 26 0 k (by decide +kernel)).1) (by decide) (by decide) ?_
  change th_G l z _ _ _ _ hm_58 _ _
  refine th_putR (mu := hm_58) C dc_O_init_47 cl_20 fd_O_25 (by decide +kernel) rfl rfl hN rfl rfl (fun _ => rfl) (fun _ => rfl) ?_
  change th_G l z _ _ _ _ hm_59 _ _
  refine th_aload_n C dc_O_init_50 rfl rfl ?_
  refine th_bipush (v := 60) C dc_O_init_51 th_b_60 ?_
  refine th_newa (mu := hm_59) (t := 27) (i := 0) (N := 60) (n := 93) C dc_O_init_53 (Or.inl ⟨rfl, rfl⟩) rfl (fun _ => rfl) ac_int (by decide) (by decide) (by decide) (by decide +kernel) (by decide +kernel) (by decide) (by decide +kernel) (by rw [hc_59.1]; rfl) (fun k => (hc_59.2 27 0 k (by decide +kernel)).1) (by decide) (by decide) ?_
  change th_G l z _ _ _ _ hm_60 _ _
  refine th_putR (mu := hm_60) C dc_O_init_55 cl_20 fd_O_28 (by decide +kernel) rfl rfl hN rfl rfl (fun _ => rfl) (fun _ => rfl) ?_
  change th_G l z _ _ _ _ hm_61 _ _
  refine th_aload_n C dc_O_init_58 rfl rfl ?_
  refine th_iconst (v := 5) C dc_O_init_59 th_c_5 ?_
  refine th_newa (mu := hm_61) (t := 28) (i := 0) (N := 5) (n := 94) C dc_O_init_60 (Or.inl ⟨rfl, rfl⟩) rfl (fun _ => rfl) ac_int (by decide) (by decide) (by decide) (by decide +kernel) (by decide +kernel) (by decide) (by decide +kernel) (by rw [hc_61.1]; rfl) (fun k => (hc_61.2 28 0 k (by decide +kernel)).1) (by decide) (by decide) ?_
  change th_G l z _ _ _ _ hm_62 _ _
  refine th_putR (mu := hm_62) C dc_O_init_62 cl_20 fd_O_31 (by decide +kernel) rfl rfl hN rfl rfl (fun _ => rfl) (fun _ => rfl) ?_
  change th_G l z _ _ _ _ hm_63 _ _
  refine th_aload_n C dc_O_init_65 rfl rfl ?_
  refine th_bipush (v := 20) C dc_O_init_66 th_b_20 ?_
  refine th_newa (mu := hm_63) (t := 29) (i := 0) (N := 20) (n := 95) C dc_O_init_68 (Or.inl ⟨rfl, rfl⟩) rfl (fun _ => rfl) ac_int (by decide) (by decide) (by decide) (by decide +kernel) (by decide +kernel) (by decide) (by decide +kernel) (by rw [hc_63.1]; rfl) (fun k => (hc_63.2 29 0 k (by decide +kernel)).1) (by decide) (by decide) ?_
  change th_G l z _ _ _ _ hm_64 _ _
  refine th_putR (mu := hm_64) C dc_O_init_70 cl_20 fd_O_34 (by decide +kernel) rfl rfl hN rfl rfl (fun _ => rfl) (fun _ => rfl) ?_
  change th_G l z _ _ _ _ hm_65 _ _
  refine th_aload_n C dc_O_init_73 rfl rfl ?_
  refine th_bipush (v := 20) C dc_O_init_74 th_b_20 ?_
  refine th_newa (mu := hm_65) (t := 30) (i := 0) (N := 20) (n := 96) C dc_O_init_76 (Or.inl ⟨rfl, rfl⟩) rfl (fun _ => rfl) ac_int (by decide) (by decide) (by decide) (by decide +kernel) (by decide +kernel) (by decide) (by decide +kernel) (by rw [hc_65.1]; rfl) (fun k => (hc_65.2 30 0 k (by decide +kernel)).1) (by decide) (by decide) ?_
  change th_G l z _ _ _ _ hm_66 _ _
  refine th_putR (mu := hm_66) C dc_O_init_78 cl_20 fd_O_37 (by decide +kernel) rfl rfl hN rfl rfl (fun _ => rfl) (fun _ => rfl) ?_
  change th_G l z _ _ _ _ hm_67 _ _
  refine th_aload_n C dc_O_init_81 rfl rfl ?_
  refine th_iconst (v := 5) C dc_O_init_82 th_c_5 ?_
  refine th_newa (mu := hm_67) (t := 31) (i := 0) (N := 5) (n := 97) C dc_O_init_83 (Or.inl ⟨rfl, rfl⟩) rfl (fun _ => rfl) ac_int (by decide) (by decide) (by decide) (by decide +kernel) (by decide +kernel) (by decide) (by decide +kernel) (by rw [hc_67.1]; rfl) (fun k => (hc_67.2 31 0 k (by decide +kernel)).1) (by decide) (by decide) ?_
  change th_G l z _ _ _ _ hm_68 _ _
  refine th_putR (mu := hm_68) C dc_O_init_85 cl_20 fd_O_40 (by decide +kernel) rfl rfl hN rfl rfl (fun _ => rfl) (fun _ => rfl) ?_
  change th_G l z _ _ _ _ hm_69 _ _
  refine th_aload_n C dc_O_init_88 rfl rfl ?_
  refine th_iconst (v := 5) C dc_O_init_89 th_c_5 ?_
  refine th_newa (mu := hm_69) (t := 32) (i := 0) (N := 5) (n := 98) C dc_O_init_90 (Or.inl ⟨rfl, rfl⟩) rfl (fun _ => rfl) ac_int (by decide) (by decide) (by decide) (by decide +kernel) (by decide +kernel) (by decide) (by decide +kernel) (by rw [hc_69.1]; rfl) (fun k => (hc_69.2 32 0 k (by decide +kernel)).1) (by decide) (by decide) ?_
  change th_G l z _ _ _ _ hm_70 _ _
  refine th_putR (mu := hm_70) C dc_O_init_92 cl_20 fd_O_43 (by decide +kernel) rfl rfl hN rfl rfl (fun _ => rfl) (fun _ => rfl) ?_
  change th_G l z _ _ _ _ hm_71 _ _
  refine th_aload_n C dc_O_init_95 rfl rfl ?_
  refine th_iconst (v := 5) C dc_O_init_96 th_c_5 ?_
  refine th_newa (mu := hm_71) (t := 33) (i := 0) (N := 5) (n := 99) C dc_O_init_97 (Or.inl ⟨rfl, rfl⟩) rfl (fun _ => rfl) ac_int (by decide) (by decide) (by decide) (by decide +kernel) (by decide +kernel) (by decide) (by decide +kernel) (by rw [hc_71.1]; rfl) (fun k => (hc_71.2 33 0 k (by decide +kernel)).1) (by decide) (by decide) ?_
  change th_G l z _ _ _ _ hm_72 _ _
  refine th_putR (mu := hm_72) C dc_O_init_99 cl_20 fd_O_46 (by decide +kernel) rfl rfl hN rfl rfl (fun _ => rfl) (fun _ => rfl) ?_
  change th_G l z _ _ _ _ hm_73 _ _
  refine th_aload_n C dc_O_init_102 rfl rfl ?_
  refine th_iconst (v := 5) C dc_O_init_103 th_c_5 ?_
  refine th_newa (mu := hm_73) (t := 34) (i := 0) (N := 5) (n := 100) C dc_O_init_104 (Or.inl ⟨rfl, rfl⟩) rfl (fun _ => rfl) ac_int (by decide) (by decide) (by decide) (by decide +kernel) (by decide +kernel) (by decide) (by decide +kernel) (by rw [hc_73.1]; rfl) (fun k => (hc_73.2 34 0 k (by decide +kernel)).1) (by decide) (by decide) ?_
  change th_G l z _ _ _ _ hm_74 _ _
  refine th_putR (mu := hm_74) C dc_O_init_106 cl_20 fd_O_49 (by decide +kernel) rfl rfl hN rfl rfl (fun _ => rfl) (fun _ => rfl) ?_
  change th_G l z _ _ _ _ hm_75 _ _
  refine th_aload_n C dc_O_init_109 rfl rfl ?_
  refine th_iconst (v := 5) C dc_O_init_110 th_c_5 ?_
  refine th_newa (mu := hm_75) (t := 35) (i := 0) (N := 5) (n := 101) C dc_O_init_111 (Or.inl ⟨rfl, rfl⟩) rfl (fun _ => rfl) ac_int (by decide) (by decide) (by decide) (by decide +kernel) (by decide +kernel) (by decide) (by decide +kernel) (by rw [hc_75.1]; rfl) (fun k => (hc_75.2 35 0 k (by decide +kernel)).1) (by decide) (by decide) ?_
  change th_G l z _ _ _ _ hm_76 _ _
  refine th_putR (mu := hm_76) C dc_O_init_113 cl_20 fd_O_52 (by decide +kernel) rfl rfl hN rfl rfl (fun _ => rfl) (fun _ => rfl) ?_
  change th_G l z _ _ _ _ hm_77 _ _
  refine th_aload_n C dc_O_init_116 rfl rfl ?_
  refine th_iconst (v := 5) C dc_O_init_117 th_c_5 ?_
  refine th_newa (mu := hm_77) (t := 36) (i := 0) (N := 5) (n := 102) C dc_O_init_118 (Or.inl ⟨rfl, rfl⟩) rfl (fun _ => rfl) ac_int (by decide) (by decide) (by decide) (by decide +kernel) (by decide +kernel) (by decide) (by decide +kernel) (by rw [hc_77.1]; rfl) (fun k => (hc_77.2 36 0 k (by decide +kernel)).1) (by decide) (by decide) ?_
  change th_G l z _ _ _ _ hm_78 _ _
  refine th_putR (mu := hm_78) C dc_O_init_120 cl_20 fd_O_55 (by decide +kernel) rfl rfl hN rfl rfl (fun _ => rfl) (fun _ => rfl) ?_
  change th_G l z _ _ _ _ hm_79 _ _
  refine th_aload_n C dc_O_init_123 rfl rfl ?_
  refine th_iconst (v := 5) C dc_O_init_124 th_c_5 ?_
  refine th_newa (mu := hm_79) (t := 37) (i := 0) (N := 5) (n := 103) C dc_O_init_125 (Or.inl ⟨rfl, rfl⟩) rfl (fun _ => rfl) ac_int (by decide) (by decide) (by decide) (by decide +kernel) (by decide +kernel) (by decide) (by decide +kernel) (by rw [hc_79.1]; rfl) (fun k => (hc_79.2 37 0 k (by decide +kernel)).1) (by decide) (by decide) ?_
  change th_G l z _ _ _ _ hm_80 _ _
  refine th_putR (mu := hm_80) C dc_O_init_127 cl_20 fd_O_58 (by decide +kernel) rfl rfl hN rfl rfl (fun _ => rfl) (fun _ => rfl) ?_
  change th_G l z _ _ _ _ hm_81 _ _
  refine th_aload_n C dc_O_init_130 rfl rfl ?_
  refine th_iconst (v := 5) C dc_O_init_131 th_c_5 ?_
  refine th_newa (mu := hm_81) (t := 38) (i := 0) (N := 5) (n := 104) C dc_O_init_132 (Or.inl ⟨rfl, rfl⟩) rfl (fun _ => rfl) ac_int (by decide) (by decide) (by decide) (by decide +kernel) (by decide +kernel) (by decide) (by decide +kernel) (by rw [hc_81.1]; rfl) (fun k => (hc_81.2 38 0 k (by decide +kernel)).1) (by decide) (by decide) ?_
  change th_G l z _ _ _ _ hm_82 _ _
  refine th_putR (mu := hm_82) C dc_O_init_134 cl_20 fd_O_61 (by decide +kernel) rfl rfl hN rfl rfl (fun _ => rfl) (fun _ => rfl) ?_
  change th_G l z _ _ _ _ hm_83 _ _
  refine th_aload_n C dc_O_init_137 rfl rfl ?_
  refine th_iconst (v := 5) C dc_O_init_138 th_c_5 ?_
  refine th_newa (mu := hm_83) (t := 39) (i := 0) (N := 5) (n := 105) C dc_O_init_139 (Or.inl ⟨rfl, rfl⟩) rfl (fun _ => rfl) ac_int (by decide) (by decide) (by decide) (by decide +kernel) (by decide +kernel) (by decide) (by decide +kernel) (by rw [hc_83.1]; rfl) (fun k => (hc_83.2 39 0 k (by decide +kernel)).1) (by decide) (by decide) ?_
  change th_G l z _ _ _ _ hm_84 _ _
  refine th_putR (mu := hm_84) C dc_O_init_141 cl_20 fd_O_64 (by decide +kernel) rfl rfl hN rfl rfl (fun _ => rfl) (fun _ => rfl) ?_
  change th_G l z _ _ _ _ hm_85 _ _
  refine th_aload_n C dc_O_init_144 rfl rfl ?_
  refine th_iconst (v := 5) C dc_O_init_145 th_c_5 ?_
  refine th_newa (mu := hm_85) (t := 40) (i := 0) (N := 5) (n := 106) C dc_O_init_146 (Or.inl ⟨rfl, rfl⟩) rfl (fun _ => rfl) ac_int (by decide) (by decide) (by decide) (by decide +kernel) (by decide +kernel) (by decide) (by decide +kernel) (by rw [hc_85.1]; rfl) (fun k => (hc_85.2 40 0 k (by decide +kernel)).1) (by decide) (by decide) ?_
  change th_G l z _ _ _ _ hm_86 _ _
  refine th_putR (mu := hm_86) C dc_O_init_148 cl_20 fd_O_67 (by decide +kernel) rfl rfl hN rfl rfl (fun _ => rfl) (fun _ => rfl) ?_
  change th_G l z _ _ _ _ hm_87 _ _
  refine th_aload_n C dc_O_init_151 rfl rfl ?_
  refine th_iconst (v := 5) C dc_O_init_152 th_c_5 ?_
  refine th_newa (mu := hm_87) (t := 41) (i := 0) (N := 5) (n := 107) C dc_O_init_153 (Or.inl ⟨rfl, rfl⟩) rfl (fun _ => rfl) ac_int (by decide) (by decide) (by decide) (by decide +kernel) (by decide +kernel) (by decide) (by decide +kernel) (by rw [hc_87.1]; rfl) (fun k => (hc_87.2 41 0 k (by decide +kernel)).1) (by decide) (by decide) ?_
  change th_G l z _ _ _ _ hm_88 _ _
  refine th_putR (mu := hm_88) C dc_O_init_155 cl_20 fd_O_70 (by decide +kernel) rfl rfl hN rfl rfl (fun _ => rfl) (fun _ => rfl) ?_
  change th_G l z _ _ _ _ hm_89 _ _
  refine th_aload_n C dc_O_init_158 rfl rfl ?_
  refine th_iconst (v := 5) C dc_O_init_159 th_c_5 ?_
  refine th_newa (mu := hm_89) (t := 42) (i := 0) (N := 5) (n := 108) C dc_O_init_160 (Or.inr ⟨rfl, rfl⟩) rfl (fun _ => rfl) ac_boolean (by decide) (by decide) (by decide) (by decide +kernel) (by decide +kernel) (by decide) (by decide +kernel) (by rw [hc_89.1]; rfl) (fun k => (hc_89.2 42 0 k (by decide +kernel)).1) (by decide) (by decide) ?_
  change th_G l z _ _ _ _ hm_90 _ _
  refine th_putR (mu := hm_90) C dc_O_init_162 cl_20 fd_O_73 (by decide +kernel) rfl rfl hN rfl rfl (fun _ => rfl) (fun _ => rfl) ?_
  change th_G l z _ _ _ _ hm_91 _ _
  refine th_aload_n C dc_O_init_165 rfl rfl ?_
  refine th_iconst (v := 5) C dc_O_init_166 th_c_5 ?_
  refine th_newa (mu := hm_91) (t := 43) (i := 0) (N := 5) (n := 109) C dc_O_init_167 (Or.inr ⟨rfl, rfl⟩) rfl (fun _ => rfl) ac_boolean (by decide) (by decide) (by decide) (by decide +kernel) (by decide +kernel) (by decide) (by decide +kernel) (by rw [hc_91.1]; rfl) (fun k => (hc_91.2 43 0 k (by decide +kernel)).1) (by decide) (by decide) ?_
  change th_G l z _ _ _ _ hm_92 _ _
  refine th_putR (mu := hm_92) C dc_O_init_169 cl_20 fd_O_77 (by decide +kernel) rfl rfl hN rfl rfl (fun _ => rfl) (fun _ => rfl) ?_
  change th_G l z _ _ _ _ hm_93 _ _
  refine th_aload_n C dc_O_init_172 rfl rfl ?_
  refine th_iconst (v := 3) C dc_O_init_173 th_c_3 ?_
  refine th_newa (mu := hm_93) (t := 44) (i := 0) (N := 3) (n := 110) C dc_O_init_174 (Or.inl ⟨rfl, rfl⟩) rfl (fun _ => rfl) ac_int (by decide) (by decide) (by decide) (by decide +kernel) (by decide +kernel) (by decide) (by decide +kernel) (by rw [hc_93.1]; rfl) (fun k => (hc_93.2 44 0 k (by decide +kernel)).1) (by decide) (by decide) ?_
  change th_G l z _ _ _ _ hm_94 _ _
  refine th_putR (mu := hm_94) C dc_O_init_176 cl_20 fd_O_80 (by decide +kernel) rfl rfl hN rfl rfl (fun _ => rfl) (fun _ => rfl) ?_
  change th_G l z _ _ _ _ hm_95 _ _
  refine th_aload_n C dc_O_init_179 rfl rfl ?_
  refine th_iconst (v := 3) C dc_O_init_180 th_c_3 ?_
  refine th_newa (mu := hm_95) (t := 45) (i := 0) (N := 3) (n := 111) C dc_O_init_181 (Or.inl ⟨rfl, rfl⟩) rfl (fun _ => rfl) ac_int (by decide) (by decide) (by decide) (by decide +kernel) (by decide +kernel) (by decide) (by decide +kernel) (by rw [hc_95.1]; rfl) (fun k => (hc_95.2 45 0 k (by decide +kernel)).1) (by decide) (by decide) ?_
  change th_G l z _ _ _ _ hm_96 _ _
  refine th_putR (mu := hm_96) C dc_O_init_183 cl_20 fd_O_83 (by decide +kernel) rfl rfl hN rfl rfl (fun _ => rfl) (fun _ => rfl) ?_
  change th_G l z _ _ _ _ hm_97 _ _
  refine th_aload_n C dc_O_init_186 rfl rfl ?_
  refine th_bipush (v := 15) C dc_O_init_187 th_b_15 ?_
  refine th_newa (mu := hm_97) (t := 46) (i := 0) (N := 15) (n := 112) C dc_O_init_189 (Or.inl ⟨rfl, rfl⟩) rfl (fun _ => rfl) ac_int (by decide) (by decide) (by decide) (by decide +kernel) (by decide +kernel) (by decide) (by decide +kernel) (by rw [hc_97.1]; rfl) (fun k => (hc_97.2 46 0 k (by decide +kernel)).1) (by decide) (by decide) ?_
  change th_G l z _ _ _ _ hm_98 _ _
  refine th_putR (mu := hm_98) C dc_O_init_191 cl_20 fd_O_86 (by decide +kernel) rfl rfl hN rfl rfl (fun _ => rfl) (fun _ => rfl) ?_
  change th_G l z _ _ _ _ hm_99 _ _
  refine th_aload_n C dc_O_init_194 rfl rfl ?_
  refine th_iconst (v := 3) C dc_O_init_195 th_c_3 ?_
  refine th_newa (mu := hm_99) (t := 47) (i := 0) (N := 3) (n := 113) C dc_O_init_196 (Or.inl ⟨rfl, rfl⟩) rfl (fun _ => rfl) ac_int (by decide) (by decide) (by decide) (by decide +kernel) (by decide +kernel) (by decide) (by decide +kernel) (by rw [hc_99.1]; rfl) (fun k => (hc_99.2 47 0 k (by decide +kernel)).1) (by decide) (by decide) ?_
  change th_G l z _ _ _ _ hm_100 _ _
  refine th_putR (mu := hm_100) C dc_O_init_198 cl_20 fd_O_89 (by decide +kernel) rfl rfl hN rfl rfl (fun _ => rfl) (fun _ => rfl) ?_
  change th_G l z _ _ _ _ hm_101 _ _
  refine th_aload_n C dc_O_init_201 rfl rfl ?_
  refine th_bipush (v := 15) C dc_O_init_202 th_b_15 ?_
  refine th_newa (mu := hm_101) (t := 48) (i := 0) (N := 15) (n := 114) C dc_O_init_204 (Or.inl ⟨rfl, rfl⟩) rfl (fun _ => rfl) ac_int (by decide) (by decide) (by decide) (by decide +kernel) (by decide +kernel) (by decide) (by decide +kernel) (by rw [hc_101.1]; rfl) (fun k => (hc_101.2 48 0 k (by decide +kernel)).1) (by decide) (by decide) ?_
  change th_G l z _ _ _ _ hm_102 _ _
  refine th_putR (mu := hm_102) C dc_O_init_206 cl_20 fd_O_92 (by decide +kernel) rfl rfl hN rfl rfl (fun _ => rfl) (fun _ => rfl) ?_
  change th_G l z _ _ _ _ hm_103 _ _
  refine th_aload_n C dc_O_init_209 rfl rfl ?_
  refine th_iconst (v := 3) C dc_O_init_210 th_c_3 ?_
  refine th_newa (mu := hm_103) (t := 49) (i := 0) (N := 3) (n := 115) C dc_O_init_211 (Or.inl ⟨rfl, rfl⟩) rfl (fun _ => rfl) ac_int (by decide) (by decide) (by decide) (by decide +kernel) (by decide +kernel) (by decide) (by decide +kernel) (by rw [hc_103.1]; rfl) (fun k => (hc_103.2 49 0 k (by decide +kernel)).1) (by decide) (by decide) ?_
  change th_G l z _ _ _ _ hm_104 _ _
  refine th_putR (mu := hm_104) C dc_O_init_213 cl_20 fd_O_95 (by decide +kernel) rfl rfl hN rfl rfl (fun _ => rfl) (fun _ => rfl) ?_
  change th_G l z _ _ _ _ hm_105 _ _
  refine th_aload_n C dc_O_init_216 rfl rfl ?_
  refine th_bipush (v := 25) C dc_O_init_217 th_b_25 ?_
  refine th_newa (mu := hm_105) (t := 50) (i := 0) (N := 25) (n := 116) C dc_O_init_219 (Or.inl ⟨rfl, rfl⟩) rfl (fun _ => rfl) ac_int (by decide) (by decide) (by decide) (by decide +kernel) (by decide +kernel) (by decide) (by decide +kernel) (by rw [hc_105.1]; rfl) (fun k => (hc_105.2 50 0 k (by decide +kernel)).1) (by decide) (by decide) ?_
  change th_G l z _ _ _ _ hm_106 _ _
  refine th_putR (mu := hm_106) C dc_O_init_221 cl_20 fd_O_98 (by decide +kernel) rfl rfl hN rfl rfl (fun _ => rfl) (fun _ => rfl) ?_
  change th_G l z _ _ _ _ hm_107 _ _
  refine th_aload_n C dc_O_init_224 rfl rfl ?_
  refine th_iconst (v := 5) C dc_O_init_225 th_c_5 ?_
  refine th_newa (mu := hm_107) (t := 51) (i := 0) (N := 5) (n := 117) C dc_O_init_226 (Or.inl ⟨rfl, rfl⟩) rfl (fun _ => rfl) ac_int (by decide) (by decide) (by decide) (by decide +kernel) (by decide +kernel) (by decide) (by decide +kernel) (by rw [hc_107.1]; rfl) (fun k => (hc_107.2 51 0 k (by decide +kernel)).1) (by decide) (by decide) ?_
  change th_G l z _ _ _ _ hm_108 _ _
  refine th_putR (mu := hm_108) C dc_O_init_228 cl_20 fd_O_101 (by decide +kernel) rfl rfl hN rfl rfl (fun _ => rfl) (fun _ => rfl) ?_
  change th_G l z _ _ _ _ hm_109 _ _
  refine th_aload_n C dc_O_init_231 rfl rfl ?_
  refine th_bipush (v := 40) C dc_O_init_232 th_b_40 ?_
  refine th_newa (mu := hm_109) (t := 52) (i := 0) (N := 40) (n := 118) C dc_O_init_234 (Or.inl ⟨rfl, rfl⟩) rfl (fun _ => rfl) ac_int (by decide) (by decide) (by decide) (by decide +kernel) (by decide +kernel) (by decide) (by decide +kernel) (by rw [hc_109.1]; rfl) (fun k => (hc_109.2 52 0 k (by decide +kernel)).1) (by decide) (by decide) ?_
  change th_G l z _ _ _ _ hm_110 _ _
  refine th_putR (mu := hm_110) C dc_O_init_236 cl_20 fd_O_104 (by decide +kernel) rfl rfl hN rfl rfl (fun _ => rfl) (fun _ => rfl) ?_
  change th_G l z _ _ _ _ hm_111 _ _
  refine th_aload_n C dc_O_init_239 rfl rfl ?_
  refine th_bipush (v := 8) C dc_O_init_240 th_b_8 ?_
  refine th_newa (mu := hm_111) (t := 53) (i := 0) (N := 8) (n := 119) C dc_O_init_242 (Or.inl ⟨rfl, rfl⟩) rfl (fun _ => rfl) ac_int (by decide) (by decide) (by decide) (by decide +kernel) (by decide +kernel) (by decide) (by decide +kernel) (by rw [hc_111.1]; rfl) (fun k => (hc_111.2 53 0 k (by decide +kernel)).1) (by decide) (by decide) ?_
  change th_G l z _ _ _ _ hm_112 _ _
  refine th_putR (mu := hm_112) C dc_O_init_244 cl_20 fd_O_107 (by decide +kernel) rfl rfl hN rfl rfl (fun _ => rfl) (fun _ => rfl) ?_
  change th_G l z _ _ _ _ hm_113 _ _
  refine th_aload_n C dc_O_init_247 rfl rfl ?_
  refine th_iconst (v := 4) C dc_O_init_248 th_c_4 ?_
  refine tk_putI (mu := hm_113) C dc_O_init_249 cl_20 fd_O_110 (by decide +kernel) rfl rfl rfl ?_
  change th_G l z _ _ _ _ hm_114 _ _
  refine th_iconst (v := 0) C dc_O_init_252 th_c_0 ?_
  refine th_istore_n (lv' := [(0, .inr (some (20, 0))), (1, .inl ((0 : Int32)))]) C dc_O_init_253 rfl (by decide) rfl ?_
  refine th_iload_n C dc_O_init_254 rfl rfl ?_
  refine th_iconst (v := 3) C dc_O_init_255 th_c_3 ?_
  refine tq_icmp_ge (tgt := 272) C dc_O_init_256 (by decide) th_l_0 th_l_3 (fun c => ?_) (fun c => ?_)
  · exact absurd c (by decide)
  · refine th_aload_n C dc_O_init_259 rfl rfl ?_
    refine th_getR (mu := hm_114) (v := some (44, 0)) C dc_O_init_260 (by decide +kernel) cl_20.1 cl_20.2.1 cl_20.2.2.1 fd_O_80.1 rfl fd_O_80.2 (by decide +kernel) ?_
    refine th_iload_n C dc_O_init_263 rfl rfl ?_
    refine th_iconst (v := -1) C dc_O_init_264 th_c_m1 ?_
    refine th_iast (mu := hm_114) (n := 0) C dc_O_init_265 (by decide +kernel) rfl (fun _ => rfl) (th_ixN th_l_0 (by decide) (by decide +kernel)) ?_
    change th_G l z _ _ _ _ hm_115 _ _
    refine th_iinc (v := 1) (lv' := [(0, .inr (some (20, 0))), (1, .inl ((1 : Int32)))]) C dc_O_init_266 rfl (by decide) (by decide) rfl ?_
    refine th_goto (tgt := 254) C dc_O_init_269 (by decide) ?_
    refine th_iload_n C dc_O_init_254 rfl rfl ?_
    refine th_iconst (v := 3) C dc_O_init_255 th_c_3 ?_
    refine tq_icmp_ge (tgt := 272) C dc_O_init_256 (by decide) th_l_1 th_l_3 (fun c => ?_) (fun c => ?_)
    · exact absurd c (by decide)
    · refine th_aload_n C dc_O_init_259 rfl rfl ?_
      refine th_getR (mu := hm_115) (v := some (44, 0)) C dc_O_init_260 (by decide +kernel) cl_20.1 cl_20.2.1 cl_20.2.2.1 fd_O_80.1 rfl fd_O_80.2 (by decide +kernel) ?_
      refine th_iload_n C dc_O_init_263 rfl rfl ?_
      refine th_iconst (v := -1) C dc_O_init_264 th_c_m1 ?_
      refine th_iast (mu := hm_115) (n := 1) C dc_O_init_265 (by decide +kernel) rfl (fun _ => rfl) (th_ixN th_l_1 (by decide) (by decide +kernel)) ?_
      change th_G l z _ _ _ _ hm_116 _ _
      refine th_iinc (v := 2) (lv' := [(0, .inr (some (20, 0))), (1, .inl ((2 : Int32)))]) C dc_O_init_266 rfl (by decide) (by decide) rfl ?_
      refine th_goto (tgt := 254) C dc_O_init_269 (by decide) ?_
      refine th_iload_n C dc_O_init_254 rfl rfl ?_
      refine th_iconst (v := 3) C dc_O_init_255 th_c_3 ?_
      refine tq_icmp_ge (tgt := 272) C dc_O_init_256 (by decide) th_l_2 th_l_3 (fun c => ?_) (fun c => ?_)
      · exact absurd c (by decide)
      · refine th_aload_n C dc_O_init_259 rfl rfl ?_
        refine th_getR (mu := hm_116) (v := some (44, 0)) C dc_O_init_260 (by decide +kernel) cl_20.1 cl_20.2.1 cl_20.2.2.1 fd_O_80.1 rfl fd_O_80.2 (by decide +kernel) ?_
        refine th_iload_n C dc_O_init_263 rfl rfl ?_
        refine th_iconst (v := -1) C dc_O_init_264 th_c_m1 ?_
        refine th_iast (mu := hm_116) (n := 2) C dc_O_init_265 (by decide +kernel) rfl (fun _ => rfl) (th_ixN th_l_2 (by decide) (by decide +kernel)) ?_
        change th_G l z _ _ _ _ hm_117 _ _
        refine th_iinc (v := 3) (lv' := [(0, .inr (some (20, 0))), (1, .inl ((3 : Int32)))]) C dc_O_init_266 rfl (by decide) (by decide) rfl ?_
        refine th_goto (tgt := 254) C dc_O_init_269 (by decide) ?_
        refine th_iload_n C dc_O_init_254 rfl rfl ?_
        refine th_iconst (v := 3) C dc_O_init_255 th_c_3 ?_
        refine tq_icmp_ge (tgt := 272) C dc_O_init_256 (by decide) th_l_3 th_l_3 (fun c => ?_) (fun c => ?_)
        · refine th_iconst (v := 0) C dc_O_init_272 th_c_0 ?_
          refine th_istore_n (lv' := [(0, .inr (some (20, 0))), (1, .inl ((0 : Int32)))]) C dc_O_init_273 rfl (by decide) rfl ?_
          refine th_iload_n C dc_O_init_274 rfl rfl ?_
          refine th_iconst (v := 5) C dc_O_init_275 th_c_5 ?_
          refine tq_icmp_ge (tgt := 293) C dc_O_init_276 (by decide) th_l_0 th_l_5 (fun c => ?_) (fun c => ?_)
          · exact absurd c (by decide)
          · refine th_aload_n C dc_O_init_279 rfl rfl ?_
            refine th_getR (mu := hm_117) (v := some (35, 0)) C dc_O_init_280 (by decide +kernel) cl_20.1 cl_20.2.1 cl_20.2.2.1 fd_O_52.1 rfl fd_O_52.2 (by decide +kernel) ?_
            refine th_iload_n C dc_O_init_283 rfl rfl ?_
            refine th_bipush (v := 24) C dc_O_init_284 th_b_24 ?_
            refine th_iast (mu := hm_117) (n := 0) C dc_O_init_286 (by decide +kernel) rfl (fun _ => rfl) (th_ixN th_l_0 (by decide) (by decide +kernel)) ?_
            change th_G l z _ _ _ _ hm_118 _ _
            refine th_iinc (v := 1) (lv' := [(0, .inr (some (20, 0))), (1, .inl ((1 : Int32)))]) C dc_O_init_287 rfl (by decide) (by decide) rfl ?_
            refine th_goto (tgt := 274) C dc_O_init_290 (by decide) ?_
            refine th_iload_n C dc_O_init_274 rfl rfl ?_
            refine th_iconst (v := 5) C dc_O_init_275 th_c_5 ?_
            refine tq_icmp_ge (tgt := 293) C dc_O_init_276 (by decide) th_l_1 th_l_5 (fun c => ?_) (fun c => ?_)
            · exact absurd c (by decide)
            · refine th_aload_n C dc_O_init_279 rfl rfl ?_
              refine th_getR (mu := hm_118) (v := some (35, 0)) C dc_O_init_280 (by decide +kernel) cl_20.1 cl_20.2.1 cl_20.2.2.1 fd_O_52.1 rfl fd_O_52.2 (by decide +kernel) ?_
              refine th_iload_n C dc_O_init_283 rfl rfl ?_
              refine th_bipush (v := 24) C dc_O_init_284 th_b_24 ?_
              refine th_iast (mu := hm_118) (n := 1) C dc_O_init_286 (by decide +kernel) rfl (fun _ => rfl) (th_ixN th_l_1 (by decide) (by decide +kernel)) ?_
              change th_G l z _ _ _ _ hm_119 _ _
              refine th_iinc (v := 2) (lv' := [(0, .inr (some (20, 0))), (1, .inl ((2 : Int32)))]) C dc_O_init_287 rfl (by decide) (by decide) rfl ?_
              refine th_goto (tgt := 274) C dc_O_init_290 (by decide) ?_
              refine th_iload_n C dc_O_init_274 rfl rfl ?_
              refine th_iconst (v := 5) C dc_O_init_275 th_c_5 ?_
              refine tq_icmp_ge (tgt := 293) C dc_O_init_276 (by decide) th_l_2 th_l_5 (fun c => ?_) (fun c => ?_)
              · exact absurd c (by decide)
              · refine th_aload_n C dc_O_init_279 rfl rfl ?_
                refine th_getR (mu := hm_119) (v := some (35, 0)) C dc_O_init_280 (by decide +kernel) cl_20.1 cl_20.2.1 cl_20.2.2.1 fd_O_52.1 rfl fd_O_52.2 (by decide +kernel) ?_
                refine th_iload_n C dc_O_init_283 rfl rfl ?_
                refine th_bipush (v := 24) C dc_O_init_284 th_b_24 ?_
                refine th_iast (mu := hm_119) (n := 2) C dc_O_init_286 (by decide +kernel) rfl (fun _ => rfl) (th_ixN th_l_2 (by decide) (by decide +kernel)) ?_
                change th_G l z _ _ _ _ hm_120 _ _
                refine th_iinc (v := 3) (lv' := [(0, .inr (some (20, 0))), (1, .inl ((3 : Int32)))]) C dc_O_init_287 rfl (by decide) (by decide) rfl ?_
                refine th_goto (tgt := 274) C dc_O_init_290 (by decide) ?_
                refine th_iload_n C dc_O_init_274 rfl rfl ?_
                refine th_iconst (v := 5) C dc_O_init_275 th_c_5 ?_
                refine tq_icmp_ge (tgt := 293) C dc_O_init_276 (by decide) th_l_3 th_l_5 (fun c => ?_) (fun c => ?_)
                · exact absurd c (by decide)
                · refine th_aload_n C dc_O_init_279 rfl rfl ?_
                  refine th_getR (mu := hm_120) (v := some (35, 0)) C dc_O_init_280 (by decide +kernel) cl_20.1 cl_20.2.1 cl_20.2.2.1 fd_O_52.1 rfl fd_O_52.2 (by decide +kernel) ?_
                  refine th_iload_n C dc_O_init_283 rfl rfl ?_
                  refine th_bipush (v := 24) C dc_O_init_284 th_b_24 ?_
                  refine th_iast (mu := hm_120) (n := 3) C dc_O_init_286 (by decide +kernel) rfl (fun _ => rfl) (th_ixN th_l_3 (by decide) (by decide +kernel)) ?_
                  change th_G l z _ _ _ _ hm_121 _ _
                  refine th_iinc (v := 4) (lv' := [(0, .inr (some (20, 0))), (1, .inl ((4 : Int32)))]) C dc_O_init_287 rfl (by decide) (by decide) rfl ?_
                  refine th_goto (tgt := 274) C dc_O_init_290 (by decide) ?_
                  refine th_iload_n C dc_O_init_274 rfl rfl ?_
                  refine th_iconst (v := 5) C dc_O_init_275 th_c_5 ?_
                  refine tq_icmp_ge (tgt := 293) C dc_O_init_276 (by decide) th_l_4 th_l_5 (fun c => ?_) (fun c => ?_)
                  · exact absurd c (by decide)
                  · refine th_aload_n C dc_O_init_279 rfl rfl ?_
                    refine th_getR (mu := hm_121) (v := some (35, 0)) C dc_O_init_280 (by decide +kernel) cl_20.1 cl_20.2.1 cl_20.2.2.1 fd_O_52.1 rfl fd_O_52.2 (by decide +kernel) ?_
                    refine th_iload_n C dc_O_init_283 rfl rfl ?_
                    refine th_bipush (v := 24) C dc_O_init_284 th_b_24 ?_
                    refine th_iast (mu := hm_121) (n := 4) C dc_O_init_286 (by decide +kernel) rfl (fun _ => rfl) (th_ixN th_l_4 (by decide) (by decide +kernel)) ?_
                    change th_G l z _ _ _ _ hm_122 _ _
                    refine th_iinc (v := 5) (lv' := [(0, .inr (some (20, 0))), (1, .inl ((5 : Int32)))]) C dc_O_init_287 rfl (by decide) (by decide) rfl ?_
                    refine th_goto (tgt := 274) C dc_O_init_290 (by decide) ?_
                    refine th_iload_n C dc_O_init_274 rfl rfl ?_
                    refine th_iconst (v := 5) C dc_O_init_275 th_c_5 ?_
                    refine tq_icmp_ge (tgt := 293) C dc_O_init_276 (by decide) th_l_5 th_l_5 (fun c => ?_) (fun c => ?_)
                    · refine th_aload_n C dc_O_init_293 rfl rfl ?_
                      refine th_getR (mu := hm_122) (v := some (53, 0)) C dc_O_init_294 (by decide +kernel) cl_20.1 cl_20.2.1 cl_20.2.2.1 fd_O_107.1 rfl fd_O_107.2 (by decide +kernel) ?_
                      refine th_bipush (v := 6) C dc_O_init_297 th_b_6 ?_
                      refine th_iconst (v := -1) C dc_O_init_299 th_c_m1 ?_
                      refine th_iast (mu := hm_122) (n := 6) C dc_O_init_300 (by decide +kernel) rfl (fun _ => rfl) (th_ixN th_l_6 (by decide) (by decide +kernel)) ?_
                      change th_G l z _ _ _ _ hm_123 _ _
                      exact th_vret C hQ dc_O_init_301 (by decide) (by decide) ⟨rfl, rfl⟩
                    · exact absurd c (by decide)
        · exact absurd c (by decide)

