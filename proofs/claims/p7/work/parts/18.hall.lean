set_option maxRecDepth 100000 in
set_option maxHeartbeats 4000000 in
theorem k_H (l : Launch) (hl : l.stackTraces = false) : th_F l yn_H_init cb_H_init 2 none { frames := 3, cells := 85, slots := 881, locals := 62 } [.inr (some (0, 0))] hm_1 (th_fin hm_46) := by
  refine th_of hl (by decide +kernel) (Nat.le_of_ble_eq_true rfl) (fun z C hQ hN => ?_)
  refine th_aload_n C dc_H_init_0 rfl rfl ?_
  refine th_objInit C dc_H_init_1 (tb 65 (by decide +kernel) rfl) oi_1 oi_2 (by decide) (Nat.le_of_ble_eq_true rfl) ?_
  refine th_aload_n C dc_H_init_4 rfl rfl ?_
  refine th_iconst (v := 5) C dc_H_init_5 th_c_5 ?_
  refine th_anew (mu := hm_1) (t := 1) (i := 0) (N := 5) (n := 1) C dc_H_init_6 rfl (fun _ => rfl) (tb 68 (by decide +kernel) rfl) (by decide) (by decide) (by decide) (by decide) (by decide +kernel) (by decide +kernel) (by decide) (by decide +kernel) (by rw [hc_1.1]; rfl) (fun k => (hc_1.2 1 0 k (by decide +kernel)).2) (by decide) (by decide) ?_
  change th_G l z _ _ _ _ hm_2 _ _
  refine th_putR (mu := hm_2) C dc_H_init_9 cl_0 fd_H_11 (by decide +kernel) rfl rfl hN rfl rfl (fun _ => rfl) (fun _ => rfl) ?_
  change th_G l z _ _ _ _ hm_3 _ _
  refine th_iconst (v := 0) C dc_H_init_12 th_c_0 ?_
  refine th_istore_n (lv' := [(0, .inr (some (0, 0))), (1, .inl ((0 : Int32)))]) C dc_H_init_13 rfl (by decide) rfl ?_
  refine th_iload_n C dc_H_init_14 rfl rfl ?_
  refine th_iconst (v := 5) C dc_H_init_15 th_c_5 ?_
  refine tq_icmp_ge (tgt := 39) C dc_H_init_16 (by decide) th_l_0 th_l_5 (fun c => ?_) (fun c => ?_)
  · exact absurd c (by decide)
  · refine th_aload_n C dc_H_init_19 rfl rfl ?_
    refine th_getR (mu := hm_3) (v := some (1, 0)) C dc_H_init_20 (by decide +kernel) cl_0.1 cl_0.2.1 cl_0.2.2.1 fd_H_11.1 rfl fd_H_11.2 (by decide +kernel) ?_
    refine th_iload_n C dc_H_init_23 rfl rfl ?_
    refine th_new (mu := hm_3) (t := 6) (i := 0) (n := 2) C dc_H_init_24 cl_6 (tb 68 (by decide +kernel) rfl) (tb 70 (by decide +kernel) rfl) (tb 48 (by decide +kernel) rfl) (by decide +kernel) (by decide +kernel) (by decide) (by decide +kernel) (th_hz hc_3 (by decide +kernel) hd_6) (by decide) (by decide) ?_
    change th_G l z _ _ _ _ hm_4 _ _
    refine th_dup C dc_H_init_27 ?_
    refine th_iload_n C dc_H_init_28 rfl rfl ?_
    refine tk_callI (m1 := hm_5) C (k_S l hl hm_4 0 3 0 (by decide) hc_4 (by decide +kernel) (by decide +kernel) (by decide +kernel) (by decide +kernel) (by decide +kernel) (by decide +kernel) (by decide +kernel) (by decide +kernel) (by decide +kernel) (by decide +kernel) (by decide +kernel) (by decide +kernel)) okI_H_15 rfl (Nat.le_of_ble_eq_true rfl) dc_H_init_29 rfl ?_
    refine th_aast (mu := hm_5) (n := 0) (ci := 4) (r := (rn_S, tf_S, 18)) C dc_H_init_32 rfl (fun _ => rfl) rfl rfl (by decide +kernel) (by decide +kernel) (th_ixN th_l_0 (by decide) (by decide +kernel)) ?_
    change th_G l z _ _ _ _ hm_6 _ _
    refine th_iinc (v := 1) (lv' := [(0, .inr (some (0, 0))), (1, .inl ((1 : Int32)))]) C dc_H_init_33 rfl (by decide) (by decide) rfl ?_
    refine th_goto (tgt := 14) C dc_H_init_36 (by decide) ?_
    refine th_iload_n C dc_H_init_14 rfl rfl ?_
    refine th_iconst (v := 5) C dc_H_init_15 th_c_5 ?_
    refine tq_icmp_ge (tgt := 39) C dc_H_init_16 (by decide) th_l_1 th_l_5 (fun c => ?_) (fun c => ?_)
    · exact absurd c (by decide)
    · refine th_aload_n C dc_H_init_19 rfl rfl ?_
      refine th_getR (mu := hm_6) (v := some (1, 0)) C dc_H_init_20 (by decide +kernel) cl_0.1 cl_0.2.1 cl_0.2.2.1 fd_H_11.1 rfl fd_H_11.2 (by decide +kernel) ?_
      refine th_iload_n C dc_H_init_23 rfl rfl ?_
      refine th_new (mu := hm_6) (t := 6) (i := 1) (n := 15) C dc_H_init_24 cl_6 (tb 68 (by decide +kernel) rfl) (tb 70 (by decide +kernel) rfl) (tb 48 (by decide +kernel) rfl) (by decide +kernel) (by decide +kernel) (by decide) (by decide +kernel) (th_hz hc_6 (by decide +kernel) hd_6) (by decide) (by decide) ?_
      change th_G l z _ _ _ _ hm_7 _ _
      refine th_dup C dc_H_init_27 ?_
      refine th_iload_n C dc_H_init_28 rfl rfl ?_
      refine tk_callI (m1 := hm_8) C (k_S l hl hm_7 1 16 1 (by decide) hc_7 (by decide +kernel) (by decide +kernel) (by decide +kernel) (by decide +kernel) (by decide +kernel) (by decide +kernel) (by decide +kernel) (by decide +kernel) (by decide +kernel) (by decide +kernel) (by decide +kernel) (by decide +kernel)) okI_H_15 rfl (Nat.le_of_ble_eq_true rfl) dc_H_init_29 rfl ?_
      refine th_aast (mu := hm_8) (n := 1) (ci := 4) (r := (rn_S, tf_S, 18)) C dc_H_init_32 rfl (fun _ => rfl) rfl rfl (by decide +kernel) (by decide +kernel) (th_ixN th_l_1 (by decide) (by decide +kernel)) ?_
      change th_G l z _ _ _ _ hm_9 _ _
      refine th_iinc (v := 2) (lv' := [(0, .inr (some (0, 0))), (1, .inl ((2 : Int32)))]) C dc_H_init_33 rfl (by decide) (by decide) rfl ?_
      refine th_goto (tgt := 14) C dc_H_init_36 (by decide) ?_
      refine th_iload_n C dc_H_init_14 rfl rfl ?_
      refine th_iconst (v := 5) C dc_H_init_15 th_c_5 ?_
      refine tq_icmp_ge (tgt := 39) C dc_H_init_16 (by decide) th_l_2 th_l_5 (fun c => ?_) (fun c => ?_)
      · exact absurd c (by decide)
      · refine th_aload_n C dc_H_init_19 rfl rfl ?_
        refine th_getR (mu := hm_9) (v := some (1, 0)) C dc_H_init_20 (by decide +kernel) cl_0.1 cl_0.2.1 cl_0.2.2.1 fd_H_11.1 rfl fd_H_11.2 (by decide +kernel) ?_
        refine th_iload_n C dc_H_init_23 rfl rfl ?_
        refine th_new (mu := hm_9) (t := 6) (i := 2) (n := 28) C dc_H_init_24 cl_6 (tb 68 (by decide +kernel) rfl) (tb 70 (by decide +kernel) rfl) (tb 48 (by decide +kernel) rfl) (by decide +kernel) (by decide +kernel) (by decide) (by decide +kernel) (th_hz hc_9 (by decide +kernel) hd_6) (by decide) (by decide) ?_
        change th_G l z _ _ _ _ hm_10 _ _
        refine th_dup C dc_H_init_27 ?_
        refine th_iload_n C dc_H_init_28 rfl rfl ?_
        refine tk_callI (m1 := hm_11) C (k_S l hl hm_10 2 29 2 (by decide) hc_10 (by decide +kernel) (by decide +kernel) (by decide +kernel) (by decide +kernel) (by decide +kernel) (by decide +kernel) (by decide +kernel) (by decide +kernel) (by decide +kernel) (by decide +kernel) (by decide +kernel) (by decide +kernel)) okI_H_15 rfl (Nat.le_of_ble_eq_true rfl) dc_H_init_29 rfl ?_
        refine th_aast (mu := hm_11) (n := 2) (ci := 4) (r := (rn_S, tf_S, 18)) C dc_H_init_32 rfl (fun _ => rfl) rfl rfl (by decide +kernel) (by decide +kernel) (th_ixN th_l_2 (by decide) (by decide +kernel)) ?_
        change th_G l z _ _ _ _ hm_12 _ _
        refine th_iinc (v := 3) (lv' := [(0, .inr (some (0, 0))), (1, .inl ((3 : Int32)))]) C dc_H_init_33 rfl (by decide) (by decide) rfl ?_
        refine th_goto (tgt := 14) C dc_H_init_36 (by decide) ?_
        refine th_iload_n C dc_H_init_14 rfl rfl ?_
        refine th_iconst (v := 5) C dc_H_init_15 th_c_5 ?_
        refine tq_icmp_ge (tgt := 39) C dc_H_init_16 (by decide) th_l_3 th_l_5 (fun c => ?_) (fun c => ?_)
        · exact absurd c (by decide)
        · refine th_aload_n C dc_H_init_19 rfl rfl ?_
          refine th_getR (mu := hm_12) (v := some (1, 0)) C dc_H_init_20 (by decide +kernel) cl_0.1 cl_0.2.1 cl_0.2.2.1 fd_H_11.1 rfl fd_H_11.2 (by decide +kernel) ?_
          refine th_iload_n C dc_H_init_23 rfl rfl ?_
          refine th_new (mu := hm_12) (t := 6) (i := 3) (n := 41) C dc_H_init_24 cl_6 (tb 68 (by decide +kernel) rfl) (tb 70 (by decide +kernel) rfl) (tb 48 (by decide +kernel) rfl) (by decide +kernel) (by decide +kernel) (by decide) (by decide +kernel) (th_hz hc_12 (by decide +kernel) hd_6) (by decide) (by decide) ?_
          change th_G l z _ _ _ _ hm_13 _ _
          refine th_dup C dc_H_init_27 ?_
          refine th_iload_n C dc_H_init_28 rfl rfl ?_
          refine tk_callI (m1 := hm_14) C (k_S l hl hm_13 3 42 3 (by decide) hc_13 (by decide +kernel) (by decide +kernel) (by decide +kernel) (by decide +kernel) (by decide +kernel) (by decide +kernel) (by decide +kernel) (by decide +kernel) (by decide +kernel) (by decide +kernel) (by decide +kernel) (by decide +kernel)) okI_H_15 rfl (Nat.le_of_ble_eq_true rfl) dc_H_init_29 rfl ?_
          refine th_aast (mu := hm_14) (n := 3) (ci := 4) (r := (rn_S, tf_S, 18)) C dc_H_init_32 rfl (fun _ => rfl) rfl rfl (by decide +kernel) (by decide +kernel) (th_ixN th_l_3 (by decide) (by decide +kernel)) ?_
          change th_G l z _ _ _ _ hm_15 _ _
          refine th_iinc (v := 4) (lv' := [(0, .inr (some (0, 0))), (1, .inl ((4 : Int32)))]) C dc_H_init_33 rfl (by decide) (by decide) rfl ?_
          refine th_goto (tgt := 14) C dc_H_init_36 (by decide) ?_
          refine th_iload_n C dc_H_init_14 rfl rfl ?_
          refine th_iconst (v := 5) C dc_H_init_15 th_c_5 ?_
          refine tq_icmp_ge (tgt := 39) C dc_H_init_16 (by decide) th_l_4 th_l_5 (fun c => ?_) (fun c => ?_)
          · exact absurd c (by decide)
          · refine th_aload_n C dc_H_init_19 rfl rfl ?_
            refine th_getR (mu := hm_15) (v := some (1, 0)) C dc_H_init_20 (by decide +kernel) cl_0.1 cl_0.2.1 cl_0.2.2.1 fd_H_11.1 rfl fd_H_11.2 (by decide +kernel) ?_
            refine th_iload_n C dc_H_init_23 rfl rfl ?_
            refine th_new (mu := hm_15) (t := 6) (i := 4) (n := 54) C dc_H_init_24 cl_6 (tb 68 (by decide +kernel) rfl) (tb 70 (by decide +kernel) rfl) (tb 48 (by decide +kernel) rfl) (by decide +kernel) (by decide +kernel) (by decide) (by decide +kernel) (th_hz hc_15 (by decide +kernel) hd_6) (by decide) (by decide) ?_
            change th_G l z _ _ _ _ hm_16 _ _
            refine th_dup C dc_H_init_27 ?_
            refine th_iload_n C dc_H_init_28 rfl rfl ?_
            refine tk_callI (m1 := hm_17) C (k_S l hl hm_16 4 55 4 (by decide) hc_16 (by decide +kernel) (by decide +kernel) (by decide +kernel) (by decide +kernel) (by decide +kernel) (by decide +kernel) (by decide +kernel) (by decide +kernel) (by decide +kernel) (by decide +kernel) (by decide +kernel) (by decide +kernel)) okI_H_15 rfl (Nat.le_of_ble_eq_true rfl) dc_H_init_29 rfl ?_
            refine th_aast (mu := hm_17) (n := 4) (ci := 4) (r := (rn_S, tf_S, 18)) C dc_H_init_32 rfl (fun _ => rfl) rfl rfl (by decide +kernel) (by decide +kernel) (th_ixN th_l_4 (by decide) (by decide +kernel)) ?_
            change th_G l z _ _ _ _ hm_18 _ _
            refine th_iinc (v := 5) (lv' := [(0, .inr (some (0, 0))), (1, .inl ((5 : Int32)))]) C dc_H_init_33 rfl (by decide) (by decide) rfl ?_
            refine th_goto (tgt := 14) C dc_H_init_36 (by decide) ?_
            refine th_iload_n C dc_H_init_14 rfl rfl ?_
            refine th_iconst (v := 5) C dc_H_init_15 th_c_5 ?_
            refine tq_icmp_ge (tgt := 39) C dc_H_init_16 (by decide) th_l_5 th_l_5 (fun c => ?_) (fun c => ?_)
            · refine th_aload_n C dc_H_init_39 rfl rfl ?_
              refine th_iconst (v := 3) C dc_H_init_40 th_c_3 ?_
              refine th_anew (mu := hm_18) (t := 2) (i := 0) (N := 3) (n := 67) C dc_H_init_41 rfl (fun _ => rfl) (tb 200 (by decide +kernel) rfl) (by decide) (by decide) (by decide) (by decide) (by decide +kernel) (by decide +kernel) (by decide) (by decide +kernel) (by rw [hc_18.1]; rfl) (fun k => (hc_18.2 2 0 k (by decide +kernel)).2) (by decide) (by decide) ?_
              change th_G l z _ _ _ _ hm_19 _ _
              refine th_putR (mu := hm_19) C dc_H_init_44 cl_0 fd_H_20 (by decide +kernel) rfl rfl hN rfl rfl (fun _ => rfl) (fun _ => rfl) ?_
              change th_G l z _ _ _ _ hm_20 _ _
              refine th_iconst (v := 0) C dc_H_init_47 th_c_0 ?_
              refine th_istore_n (lv' := [(0, .inr (some (0, 0))), (1, .inl ((0 : Int32)))]) C dc_H_init_48 rfl (by decide) rfl ?_
              refine th_iload_n C dc_H_init_49 rfl rfl ?_
              refine th_iconst (v := 3) C dc_H_init_50 th_c_3 ?_
              refine tq_icmp_ge (tgt := 73) C dc_H_init_51 (by decide) th_l_0 th_l_3 (fun c => ?_) (fun c => ?_)
              · exact absurd c (by decide)
              · refine th_aload_n C dc_H_init_54 rfl rfl ?_
                refine th_getR (mu := hm_20) (v := some (2, 0)) C dc_H_init_55 (by decide +kernel) cl_0.1 cl_0.2.1 cl_0.2.2.1 fd_H_20.1 rfl fd_H_20.2 (by decide +kernel) ?_
                refine th_iload_n C dc_H_init_58 rfl rfl ?_
                refine th_new (mu := hm_20) (t := 16) (i := 0) (n := 68) C dc_H_init_59 cl_16 (tb 200 (by decide +kernel) rfl) (tb 202 (by decide +kernel) rfl) (tb 52 (by decide +kernel) rfl) (by decide +kernel) (by decide +kernel) (by decide) (by decide +kernel) (th_hz hc_20 (by decide +kernel) hd_16) (by decide) (by decide) ?_
                change th_G l z _ _ _ _ hm_21 _ _
                refine th_dup C dc_H_init_62 ?_
                refine tk_callN (m1 := hm_22) C (k_M l hl hm_21 0 69 (by decide) hc_21 (by decide +kernel) (by decide +kernel) (by decide +kernel) (by decide +kernel) (by decide +kernel)) okN_H_24 rfl (Nat.le_of_ble_eq_true rfl) dc_H_init_63 rfl ?_
                refine th_aast (mu := hm_22) (n := 0) (ci := 0) (r := (rn_M, tf_M, 3)) C dc_H_init_66 rfl (fun _ => rfl) rfl rfl (by decide +kernel) (by decide +kernel) (th_ixN th_l_0 (by decide) (by decide +kernel)) ?_
                change th_G l z _ _ _ _ hm_23 _ _
                refine th_iinc (v := 1) (lv' := [(0, .inr (some (0, 0))), (1, .inl ((1 : Int32)))]) C dc_H_init_67 rfl (by decide) (by decide) rfl ?_
                refine th_goto (tgt := 49) C dc_H_init_70 (by decide) ?_
                refine th_iload_n C dc_H_init_49 rfl rfl ?_
                refine th_iconst (v := 3) C dc_H_init_50 th_c_3 ?_
                refine tq_icmp_ge (tgt := 73) C dc_H_init_51 (by decide) th_l_1 th_l_3 (fun c => ?_) (fun c => ?_)
                · exact absurd c (by decide)
                · refine th_aload_n C dc_H_init_54 rfl rfl ?_
                  refine th_getR (mu := hm_23) (v := some (2, 0)) C dc_H_init_55 (by decide +kernel) cl_0.1 cl_0.2.1 cl_0.2.2.1 fd_H_20.1 rfl fd_H_20.2 (by decide +kernel) ?_
                  refine th_iload_n C dc_H_init_58 rfl rfl ?_
                  refine th_new (mu := hm_23) (t := 16) (i := 1) (n := 71) C dc_H_init_59 cl_16 (tb 200 (by decide +kernel) rfl) (tb 202 (by decide +kernel) rfl) (tb 52 (by decide +kernel) rfl) (by decide +kernel) (by decide +kernel) (by decide) (by decide +kernel) (th_hz hc_23 (by decide +kernel) hd_16) (by decide) (by decide) ?_
                  change th_G l z _ _ _ _ hm_24 _ _
                  refine th_dup C dc_H_init_62 ?_
                  refine tk_callN (m1 := hm_25) C (k_M l hl hm_24 1 72 (by decide) hc_24 (by decide +kernel) (by decide +kernel) (by decide +kernel) (by decide +kernel) (by decide +kernel)) okN_H_24 rfl (Nat.le_of_ble_eq_true rfl) dc_H_init_63 rfl ?_
                  refine th_aast (mu := hm_25) (n := 1) (ci := 0) (r := (rn_M, tf_M, 3)) C dc_H_init_66 rfl (fun _ => rfl) rfl rfl (by decide +kernel) (by decide +kernel) (th_ixN th_l_1 (by decide) (by decide +kernel)) ?_
                  change th_G l z _ _ _ _ hm_26 _ _
                  refine th_iinc (v := 2) (lv' := [(0, .inr (some (0, 0))), (1, .inl ((2 : Int32)))]) C dc_H_init_67 rfl (by decide) (by decide) rfl ?_
                  refine th_goto (tgt := 49) C dc_H_init_70 (by decide) ?_
                  refine th_iload_n C dc_H_init_49 rfl rfl ?_
                  refine th_iconst (v := 3) C dc_H_init_50 th_c_3 ?_
                  refine tq_icmp_ge (tgt := 73) C dc_H_init_51 (by decide) th_l_2 th_l_3 (fun c => ?_) (fun c => ?_)
                  · exact absurd c (by decide)
                  · refine th_aload_n C dc_H_init_54 rfl rfl ?_
                    refine th_getR (mu := hm_26) (v := some (2, 0)) C dc_H_init_55 (by decide +kernel) cl_0.1 cl_0.2.1 cl_0.2.2.1 fd_H_20.1 rfl fd_H_20.2 (by decide +kernel) ?_
                    refine th_iload_n C dc_H_init_58 rfl rfl ?_
                    refine th_new (mu := hm_26) (t := 16) (i := 2) (n := 74) C dc_H_init_59 cl_16 (tb 200 (by decide +kernel) rfl) (tb 202 (by decide +kernel) rfl) (tb 52 (by decide +kernel) rfl) (by decide +kernel) (by decide +kernel) (by decide) (by decide +kernel) (th_hz hc_26 (by decide +kernel) hd_16) (by decide) (by decide) ?_
                    change th_G l z _ _ _ _ hm_27 _ _
                    refine th_dup C dc_H_init_62 ?_
                    refine tk_callN (m1 := hm_28) C (k_M l hl hm_27 2 75 (by decide) hc_27 (by decide +kernel) (by decide +kernel) (by decide +kernel) (by decide +kernel) (by decide +kernel)) okN_H_24 rfl (Nat.le_of_ble_eq_true rfl) dc_H_init_63 rfl ?_
                    refine th_aast (mu := hm_28) (n := 2) (ci := 0) (r := (rn_M, tf_M, 3)) C dc_H_init_66 rfl (fun _ => rfl) rfl rfl (by decide +kernel) (by decide +kernel) (th_ixN th_l_2 (by decide) (by decide +kernel)) ?_
                    change th_G l z _ _ _ _ hm_29 _ _
                    refine th_iinc (v := 3) (lv' := [(0, .inr (some (0, 0))), (1, .inl ((3 : Int32)))]) C dc_H_init_67 rfl (by decide) (by decide) rfl ?_
                    refine th_goto (tgt := 49) C dc_H_init_70 (by decide) ?_
                    refine th_iload_n C dc_H_init_49 rfl rfl ?_
                    refine th_iconst (v := 3) C dc_H_init_50 th_c_3 ?_
                    refine tq_icmp_ge (tgt := 73) C dc_H_init_51 (by decide) th_l_3 th_l_3 (fun c => ?_) (fun c => ?_)
                    · refine th_aload_n C dc_H_init_73 rfl rfl ?_
                      refine th_iconst (v := 3) C dc_H_init_74 th_c_3 ?_
                      refine th_anew (mu := hm_29) (t := 3) (i := 0) (N := 3) (n := 77) C dc_H_init_75 rfl (fun _ => rfl) (tb 222 (by decide +kernel) rfl) (by decide) (by decide) (by decide) (by decide) (by decide +kernel) (by decide +kernel) (by decide) (by decide +kernel) (by rw [hc_29.1]; rfl) (fun k => (hc_29.2 3 0 k (by decide +kernel)).2) (by decide) (by decide) ?_
                      change th_G l z _ _ _ _ hm_30 _ _
                      refine th_putR (mu := hm_30) C dc_H_init_78 cl_0 fd_H_27 (by decide +kernel) rfl rfl hN rfl rfl (fun _ => rfl) (fun _ => rfl) ?_
                      change th_G l z _ _ _ _ hm_31 _ _
                      refine th_iconst (v := 0) C dc_H_init_81 th_c_0 ?_
                      refine th_istore_n (lv' := [(0, .inr (some (0, 0))), (1, .inl ((0 : Int32)))]) C dc_H_init_82 rfl (by decide) rfl ?_
                      refine th_iload_n C dc_H_init_83 rfl rfl ?_
                      refine th_iconst (v := 3) C dc_H_init_84 th_c_3 ?_
                      refine tq_icmp_ge (tgt := 107) C dc_H_init_85 (by decide) th_l_0 th_l_3 (fun c => ?_) (fun c => ?_)
                      · exact absurd c (by decide)
                      · refine th_aload_n C dc_H_init_88 rfl rfl ?_
                        refine th_getR (mu := hm_31) (v := some (3, 0)) C dc_H_init_89 (by decide +kernel) cl_0.1 cl_0.2.1 cl_0.2.2.1 fd_H_27.1 rfl fd_H_27.2 (by decide +kernel) ?_
                        refine th_iload_n C dc_H_init_92 rfl rfl ?_
                        refine th_new (mu := hm_31) (t := 14) (i := 8) (n := 78) C dc_H_init_93 cl_14 (tb 222 (by decide +kernel) rfl) (tb 120 (by decide +kernel) rfl) (tb 51 (by decide +kernel) rfl) (by decide +kernel) (by decide +kernel) (by decide) (by decide +kernel) (th_hz hc_31 (by decide +kernel) hd_14) (by decide) (by decide) ?_
                        change th_G l z _ _ _ _ hm_32 _ _
                        refine th_dup C dc_H_init_96 ?_
                        refine tk_callN (m1 := hm_33) C (k_R l hl hm_32 8 79 hc_32 (by decide +kernel) (by decide +kernel) (by decide +kernel) (by decide +kernel)) okN_H_31 rfl (Nat.le_of_ble_eq_true rfl) dc_H_init_97 rfl ?_
                        refine th_aast (mu := hm_33) (n := 0) (ci := 3) (r := (rn_R, tf_R, 2)) C dc_H_init_100 rfl (fun _ => rfl) rfl rfl (by decide +kernel) (by decide +kernel) (th_ixN th_l_0 (by decide) (by decide +kernel)) ?_
                        change th_G l z _ _ _ _ hm_34 _ _
                        refine th_iinc (v := 1) (lv' := [(0, .inr (some (0, 0))), (1, .inl ((1 : Int32)))]) C dc_H_init_101 rfl (by decide) (by decide) rfl ?_
                        refine th_goto (tgt := 83) C dc_H_init_104 (by decide) ?_
                        refine th_iload_n C dc_H_init_83 rfl rfl ?_
                        refine th_iconst (v := 3) C dc_H_init_84 th_c_3 ?_
                        refine tq_icmp_ge (tgt := 107) C dc_H_init_85 (by decide) th_l_1 th_l_3 (fun c => ?_) (fun c => ?_)
                        · exact absurd c (by decide)
                        · refine th_aload_n C dc_H_init_88 rfl rfl ?_
                          refine th_getR (mu := hm_34) (v := some (3, 0)) C dc_H_init_89 (by decide +kernel) cl_0.1 cl_0.2.1 cl_0.2.2.1 fd_H_27.1 rfl fd_H_27.2 (by decide +kernel) ?_
                          refine th_iload_n C dc_H_init_92 rfl rfl ?_
                          refine th_new (mu := hm_34) (t := 14) (i := 9) (n := 80) C dc_H_init_93 cl_14 (tb 222 (by decide +kernel) rfl) (tb 120 (by decide +kernel) rfl) (tb 51 (by decide +kernel) rfl) (by decide +kernel) (by decide +kernel) (by decide) (by decide +kernel) (th_hz hc_34 (by decide +kernel) hd_14) (by decide) (by decide) ?_
                          change th_G l z _ _ _ _ hm_35 _ _
                          refine th_dup C dc_H_init_96 ?_
                          refine tk_callN (m1 := hm_36) C (k_R l hl hm_35 9 81 hc_35 (by decide +kernel) (by decide +kernel) (by decide +kernel) (by decide +kernel)) okN_H_31 rfl (Nat.le_of_ble_eq_true rfl) dc_H_init_97 rfl ?_
                          refine th_aast (mu := hm_36) (n := 1) (ci := 3) (r := (rn_R, tf_R, 2)) C dc_H_init_100 rfl (fun _ => rfl) rfl rfl (by decide +kernel) (by decide +kernel) (th_ixN th_l_1 (by decide) (by decide +kernel)) ?_
                          change th_G l z _ _ _ _ hm_37 _ _
                          refine th_iinc (v := 2) (lv' := [(0, .inr (some (0, 0))), (1, .inl ((2 : Int32)))]) C dc_H_init_101 rfl (by decide) (by decide) rfl ?_
                          refine th_goto (tgt := 83) C dc_H_init_104 (by decide) ?_
                          refine th_iload_n C dc_H_init_83 rfl rfl ?_
                          refine th_iconst (v := 3) C dc_H_init_84 th_c_3 ?_
                          refine tq_icmp_ge (tgt := 107) C dc_H_init_85 (by decide) th_l_2 th_l_3 (fun c => ?_) (fun c => ?_)
                          · exact absurd c (by decide)
                          · refine th_aload_n C dc_H_init_88 rfl rfl ?_
                            refine th_getR (mu := hm_37) (v := some (3, 0)) C dc_H_init_89 (by decide +kernel) cl_0.1 cl_0.2.1 cl_0.2.2.1 fd_H_27.1 rfl fd_H_27.2 (by decide +kernel) ?_
                            refine th_iload_n C dc_H_init_92 rfl rfl ?_
                            refine th_new (mu := hm_37) (t := 14) (i := 10) (n := 82) C dc_H_init_93 cl_14 (tb 222 (by decide +kernel) rfl) (tb 120 (by decide +kernel) rfl) (tb 51 (by decide +kernel) rfl) (by decide +kernel) (by decide +kernel) (by decide) (by decide +kernel) (th_hz hc_37 (by decide +kernel) hd_14) (by decide) (by decide) ?_
                            change th_G l z _ _ _ _ hm_38 _ _
                            refine th_dup C dc_H_init_96 ?_
                            refine tk_callN (m1 := hm_39) C (k_R l hl hm_38 10 83 hc_38 (by decide +kernel) (by decide +kernel) (by decide +kernel) (by decide +kernel)) okN_H_31 rfl (Nat.le_of_ble_eq_true rfl) dc_H_init_97 rfl ?_
                            refine th_aast (mu := hm_39) (n := 2) (ci := 3) (r := (rn_R, tf_R, 2)) C dc_H_init_100 rfl (fun _ => rfl) rfl rfl (by decide +kernel) (by decide +kernel) (th_ixN th_l_2 (by decide) (by decide +kernel)) ?_
                            change th_G l z _ _ _ _ hm_40 _ _
                            refine th_iinc (v := 3) (lv' := [(0, .inr (some (0, 0))), (1, .inl ((3 : Int32)))]) C dc_H_init_101 rfl (by decide) (by decide) rfl ?_
                            refine th_goto (tgt := 83) C dc_H_init_104 (by decide) ?_
                            refine th_iload_n C dc_H_init_83 rfl rfl ?_
                            refine th_iconst (v := 3) C dc_H_init_84 th_c_3 ?_
                            refine tq_icmp_ge (tgt := 107) C dc_H_init_85 (by decide) th_l_3 th_l_3 (fun c => ?_) (fun c => ?_)
                            · refine th_aload_n C dc_H_init_107 rfl rfl ?_
                              refine th_iconst (v := 4) C dc_H_init_108 th_c_4 ?_
                              refine th_newa (mu := hm_40) (t := 4) (i := 0) (N := 4) (n := 84) C dc_H_init_109 (Or.inl ⟨rfl, rfl⟩) rfl (fun _ => rfl) ac_int (by decide) (by decide) (by decide) (by decide +kernel) (by decide +kernel) (by decide) (by decide +kernel) (by rw [hc_40.1]; rfl) (fun k => (hc_40.2 4 0 k (by decide +kernel)).1) (by decide) (by decide) ?_
                              change th_G l z _ _ _ _ hm_41 _ _
                              refine th_putR (mu := hm_41) C dc_H_init_111 cl_0 fd_H_32 (by decide +kernel) rfl rfl hN rfl rfl (fun _ => rfl) (fun _ => rfl) ?_
                              change th_G l z _ _ _ _ hm_42 _ _
                              refine th_aload_n C dc_H_init_114 rfl rfl ?_
                              refine th_bipush (v := 40) C dc_H_init_115 th_b_40 ?_
                              refine th_newa (mu := hm_42) (t := 5) (i := 0) (N := 40) (n := 85) C dc_H_init_117 (Or.inl ⟨rfl, rfl⟩) rfl (fun _ => rfl) ac_int (by decide) (by decide) (by decide) (by decide +kernel) (by decide +kernel) (by decide) (by decide +kernel) (by rw [hc_42.1]; rfl) (fun k => (hc_42.2 5 0 k (by decide +kernel)).1) (by decide) (by decide) ?_
                              change th_G l z _ _ _ _ hm_43 _ _
                              refine th_putR (mu := hm_43) C dc_H_init_119 cl_0 fd_H_36 (by decide +kernel) rfl rfl hN rfl rfl (fun _ => rfl) (fun _ => rfl) ?_
                              change th_G l z _ _ _ _ hm_44 _ _
                              refine th_aload_n C dc_H_init_122 rfl rfl ?_
                              refine th_iconst (v := 4) C dc_H_init_123 th_c_4 ?_
                              refine tk_putI (mu := hm_44) C dc_H_init_124 cl_0 fd_H_39 (by decide +kernel) rfl rfl rfl ?_
                              change th_G l z _ _ _ _ hm_45 _ _
                              refine th_aload_n C dc_H_init_127 rfl rfl ?_
                              refine th_iconst (v := -1) C dc_H_init_128 th_c_m1 ?_
                              refine tk_putI (mu := hm_45) C dc_H_init_129 cl_0 fd_H_43 (by decide +kernel) rfl rfl rfl ?_
                              change th_G l z _ _ _ _ hm_46 _ _
                              exact th_vret C hQ dc_H_init_132 (by decide) (by decide) ⟨rfl, rfl⟩
                            · exact absurd c (by decide)
                    · exact absurd c (by decide)
            · exact absurd c (by decide)

