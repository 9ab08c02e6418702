theorem dc_L_run_0 : decode cb_L_run 0 = .ok (.aload_n 2, 1) := by decide +kernel
theorem dc_L_run_1 : decode cb_L_run 1 = .ok (.iconst 0, 1) := by decide +kernel
theorem dc_L_run_2 : decode cb_L_run 2 = .ok (.aload_n 0, 1) := by decide +kernel
theorem dc_L_run_3 : decode cb_L_run 3 = .ok (.iload_n 1, 1) := by decide +kernel
theorem dc_L_run_4 : decode cb_L_run 4 = .ok (.invokevirtual 26, 3) := by decide +kernel
theorem dc_L_run_7 : decode cb_L_run 7 = .ok (.i2l, 1) := by decide +kernel
theorem dc_L_run_8 : decode cb_L_run 8 = .ok (.lastore, 1) := by decide +kernel
theorem dc_L_run_9 : decode cb_L_run 9 = .ok (.goto 6, 3) := by decide +kernel
theorem dc_L_run_12 : decode cb_L_run 12 = .ok (.astore_n 3, 1) := by decide +kernel
theorem dc_L_run_13 : decode cb_L_run 13 = .ok (.iconst 1, 1) := by decide +kernel
theorem dc_L_run_14 : decode cb_L_run 14 = .ok (.ireturn, 1) := by decide +kernel
theorem dc_L_run_15 : decode cb_L_run 15 = .ok (.iconst 0, 1) := by decide +kernel
theorem dc_L_run_16 : decode cb_L_run 16 = .ok (.ireturn, 1) := by decide +kernel
theorem dc_L_slice_0 : decode cb_L_slice 0 = .ok (.aload_n 2, 1) := by decide +kernel
theorem dc_L_slice_1 : decode cb_L_slice 1 = .ok (.iconst 0, 1) := by decide +kernel
theorem dc_L_slice_2 : decode cb_L_slice 2 = .ok (.aload_n 0, 1) := by decide +kernel
theorem dc_L_slice_3 : decode cb_L_slice 3 = .ok (.iload_n 1, 1) := by decide +kernel
theorem dc_L_slice_4 : decode cb_L_slice 4 = .ok (.invokevirtual 32, 3) := by decide +kernel
theorem dc_L_slice_7 : decode cb_L_slice 7 = .ok (.i2l, 1) := by decide +kernel
theorem dc_L_slice_8 : decode cb_L_slice 8 = .ok (.lastore, 1) := by decide +kernel
theorem dc_L_slice_9 : decode cb_L_slice 9 = .ok (.goto 6, 3) := by decide +kernel
theorem dc_L_slice_12 : decode cb_L_slice 12 = .ok (.astore_n 3, 1) := by decide +kernel
theorem dc_L_slice_13 : decode cb_L_slice 13 = .ok (.iconst 1, 1) := by decide +kernel
theorem dc_L_slice_14 : decode cb_L_slice 14 = .ok (.ireturn, 1) := by decide +kernel
theorem dc_L_slice_15 : decode cb_L_slice 15 = .ok (.iconst 0, 1) := by decide +kernel
theorem dc_L_slice_16 : decode cb_L_slice 16 = .ok (.ireturn, 1) := by decide +kernel
theorem dc_L_add_0 : decode cb_L_add 0 = .ok (.aload 5, 2) := by decide +kernel
theorem dc_L_add_2 : decode cb_L_add 2 = .ok (.iconst 0, 1) := by decide +kernel
theorem dc_L_add_3 : decode cb_L_add 3 = .ok (.aload_n 0, 1) := by decide +kernel
theorem dc_L_add_4 : decode cb_L_add 4 = .ok (.iload_n 1, 1) := by decide +kernel
theorem dc_L_add_5 : decode cb_L_add 5 = .ok (.iload_n 2, 1) := by decide +kernel
theorem dc_L_add_6 : decode cb_L_add 6 = .ok (.iload_n 3, 1) := by decide +kernel
theorem dc_L_add_7 : decode cb_L_add 7 = .ok (.iload 4, 2) := by decide +kernel
theorem dc_L_add_9 : decode cb_L_add 9 = .ok (.invokevirtual 7, 3) := by decide +kernel
theorem dc_L_add_12 : decode cb_L_add 12 = .ok (.i2l, 1) := by decide +kernel
theorem dc_L_add_13 : decode cb_L_add 13 = .ok (.lastore, 1) := by decide +kernel
theorem dc_L_add_14 : decode cb_L_add 14 = .ok (.goto 15, 3) := by decide +kernel
theorem dc_L_add_17 : decode cb_L_add 17 = .ok (.astore 6, 2) := by decide +kernel
theorem dc_L_add_19 : decode cb_L_add 19 = .ok (.iconst 1, 1) := by decide +kernel
theorem dc_L_add_20 : decode cb_L_add 20 = .ok (.ireturn, 1) := by decide +kernel
theorem dc_L_add_21 : decode cb_L_add 21 = .ok (.astore 6, 2) := by decide +kernel
theorem dc_L_add_23 : decode cb_L_add 23 = .ok (.iconst 2, 1) := by decide +kernel
theorem dc_L_add_24 : decode cb_L_add 24 = .ok (.ireturn, 1) := by decide +kernel
theorem dc_L_add_25 : decode cb_L_add 25 = .ok (.astore 6, 2) := by decide +kernel
theorem dc_L_add_27 : decode cb_L_add 27 = .ok (.iconst 3, 1) := by decide +kernel
theorem dc_L_add_28 : decode cb_L_add 28 = .ok (.ireturn, 1) := by decide +kernel
theorem dc_L_add_29 : decode cb_L_add 29 = .ok (.iconst 0, 1) := by decide +kernel
theorem dc_L_add_30 : decode cb_L_add 30 = .ok (.ireturn, 1) := by decide +kernel
theorem dc_L_clear_0 : decode cb_L_clear 0 = .ok (.aload_n 2, 1) := by decide +kernel
theorem dc_L_clear_1 : decode cb_L_clear 1 = .ok (.iconst 0, 1) := by decide +kernel
theorem dc_L_clear_2 : decode cb_L_clear 2 = .ok (.aload_n 0, 1) := by decide +kernel
theorem dc_L_clear_3 : decode cb_L_clear 3 = .ok (.iload_n 1, 1) := by decide +kernel
theorem dc_L_clear_4 : decode cb_L_clear 4 = .ok (.invokevirtual 19, 3) := by decide +kernel
theorem dc_L_clear_7 : decode cb_L_clear 7 = .ok (.i2l, 1) := by decide +kernel
theorem dc_L_clear_8 : decode cb_L_clear 8 = .ok (.lastore, 1) := by decide +kernel
theorem dc_L_clear_9 : decode cb_L_clear 9 = .ok (.goto 9, 3) := by decide +kernel
theorem dc_L_clear_12 : decode cb_L_clear 12 = .ok (.astore_n 3, 1) := by decide +kernel
theorem dc_L_clear_13 : decode cb_L_clear 13 = .ok (.iconst 1, 1) := by decide +kernel
theorem dc_L_clear_14 : decode cb_L_clear 14 = .ok (.ireturn, 1) := by decide +kernel
theorem dc_L_clear_15 : decode cb_L_clear 15 = .ok (.astore_n 3, 1) := by decide +kernel
theorem dc_L_clear_16 : decode cb_L_clear 16 = .ok (.iconst 2, 1) := by decide +kernel
theorem dc_L_clear_17 : decode cb_L_clear 17 = .ok (.ireturn, 1) := by decide +kernel
theorem dc_L_clear_18 : decode cb_L_clear 18 = .ok (.iconst 0, 1) := by decide +kernel
theorem dc_L_clear_19 : decode cb_L_clear 19 = .ok (.ireturn, 1) := by decide +kernel
theorem dc_L_start_0 : decode cb_L_start 0 = .ok (.aload_n 2, 1) := by decide +kernel
theorem dc_L_start_1 : decode cb_L_start 1 = .ok (.iconst 0, 1) := by decide +kernel
theorem dc_L_start_2 : decode cb_L_start 2 = .ok (.aload_n 0, 1) := by decide +kernel
theorem dc_L_start_3 : decode cb_L_start 3 = .ok (.iload_n 1, 1) := by decide +kernel
theorem dc_L_start_4 : decode cb_L_start 4 = .ok (.invokevirtual 23, 3) := by decide +kernel
theorem dc_L_start_7 : decode cb_L_start 7 = .ok (.i2l, 1) := by decide +kernel
theorem dc_L_start_8 : decode cb_L_start 8 = .ok (.lastore, 1) := by decide +kernel
theorem dc_L_start_9 : decode cb_L_start 9 = .ok (.goto 6, 3) := by decide +kernel
theorem dc_L_start_12 : decode cb_L_start 12 = .ok (.astore_n 3, 1) := by decide +kernel
theorem dc_L_start_13 : decode cb_L_start 13 = .ok (.iconst 1, 1) := by decide +kernel
theorem dc_L_start_14 : decode cb_L_start 14 = .ok (.ireturn, 1) := by decide +kernel
theorem dc_L_start_15 : decode cb_L_start 15 = .ok (.iconst 0, 1) := by decide +kernel
theorem dc_L_start_16 : decode cb_L_start 16 = .ok (.ireturn, 1) := by decide +kernel
theorem dc_L_interrupt_0 : decode cb_L_interrupt 0 = .ok (.aload_n 2, 1) := by decide +kernel
theorem dc_L_interrupt_1 : decode cb_L_interrupt 1 = .ok (.iconst 0, 1) := by decide +kernel
theorem dc_L_interrupt_2 : decode cb_L_interrupt 2 = .ok (.aload_n 0, 1) := by decide +kernel
theorem dc_L_interrupt_3 : decode cb_L_interrupt 3 = .ok (.iload_n 1, 1) := by decide +kernel
theorem dc_L_interrupt_4 : decode cb_L_interrupt 4 = .ok (.invokevirtual 29, 3) := by decide +kernel
theorem dc_L_interrupt_7 : decode cb_L_interrupt 7 = .ok (.i2l, 1) := by decide +kernel
theorem dc_L_interrupt_8 : decode cb_L_interrupt 8 = .ok (.lastore, 1) := by decide +kernel
theorem dc_L_interrupt_9 : decode cb_L_interrupt 9 = .ok (.goto 6, 3) := by decide +kernel
theorem dc_L_interrupt_12 : decode cb_L_interrupt 12 = .ok (.astore_n 3, 1) := by decide +kernel
theorem dc_L_interrupt_13 : decode cb_L_interrupt 13 = .ok (.iconst 1, 1) := by decide +kernel
theorem dc_L_interrupt_14 : decode cb_L_interrupt 14 = .ok (.ireturn, 1) := by decide +kernel
theorem dc_L_interrupt_15 : decode cb_L_interrupt 15 = .ok (.iconst 0, 1) := by decide +kernel
theorem dc_L_interrupt_16 : decode cb_L_interrupt 16 = .ok (.ireturn, 1) := by decide +kernel
theorem dc_L_global_0 : decode cb_L_global 0 = .ok (.aload_n 3, 1) := by decide +kernel
theorem dc_L_global_1 : decode cb_L_global 1 = .ok (.iconst 0, 1) := by decide +kernel
theorem dc_L_global_2 : decode cb_L_global 2 = .ok (.aload_n 0, 1) := by decide +kernel
theorem dc_L_global_3 : decode cb_L_global 3 = .ok (.iload_n 1, 1) := by decide +kernel
theorem dc_L_global_4 : decode cb_L_global 4 = .ok (.iload_n 2, 1) := by decide +kernel
theorem dc_L_global_5 : decode cb_L_global 5 = .ok (.invokevirtual 35, 3) := by decide +kernel
theorem dc_L_global_8 : decode cb_L_global 8 = .ok (.i2l, 1) := by decide +kernel
theorem dc_L_global_9 : decode cb_L_global 9 = .ok (.lastore, 1) := by decide +kernel
theorem dc_L_global_10 : decode cb_L_global 10 = .ok (.goto 7, 3) := by decide +kernel
theorem dc_L_global_13 : decode cb_L_global 13 = .ok (.astore 4, 2) := by decide +kernel
theorem dc_L_global_15 : decode cb_L_global 15 = .ok (.iconst 1, 1) := by decide +kernel
theorem dc_L_global_16 : decode cb_L_global 16 = .ok (.ireturn, 1) := by decide +kernel
theorem dc_L_global_17 : decode cb_L_global 17 = .ok (.iconst 0, 1) := by decide +kernel
theorem dc_L_global_18 : decode cb_L_global 18 = .ok (.ireturn, 1) := by decide +kernel
theorem dc_L_special_0 : decode cb_L_special 0 = .ok (.aload_n 3, 1) := by decide +kernel
theorem dc_L_special_1 : decode cb_L_special 1 = .ok (.iconst 0, 1) := by decide +kernel
theorem dc_L_special_2 : decode cb_L_special 2 = .ok (.aload_n 0, 1) := by decide +kernel
theorem dc_L_special_3 : decode cb_L_special 3 = .ok (.iload_n 1, 1) := by decide +kernel
theorem dc_L_special_4 : decode cb_L_special 4 = .ok (.iload_n 2, 1) := by decide +kernel
theorem dc_L_special_5 : decode cb_L_special 5 = .ok (.invokevirtual 39, 3) := by decide +kernel
theorem dc_L_special_8 : decode cb_L_special 8 = .ok (.i2l, 1) := by decide +kernel
theorem dc_L_special_9 : decode cb_L_special 9 = .ok (.lastore, 1) := by decide +kernel
theorem dc_L_special_10 : decode cb_L_special 10 = .ok (.goto 7, 3) := by decide +kernel
theorem dc_L_special_13 : decode cb_L_special 13 = .ok (.astore 4, 2) := by decide +kernel
theorem dc_L_special_15 : decode cb_L_special 15 = .ok (.iconst 1, 1) := by decide +kernel
theorem dc_L_special_16 : decode cb_L_special 16 = .ok (.ireturn, 1) := by decide +kernel
theorem dc_L_special_17 : decode cb_L_special 17 = .ok (.iconst 0, 1) := by decide +kernel
theorem dc_L_special_18 : decode cb_L_special 18 = .ok (.ireturn, 1) := by decide +kernel
theorem dc_L_look_0 : decode cb_L_look 0 = .ok (.aload_n 3, 1) := by decide +kernel
theorem dc_L_look_1 : decode cb_L_look 1 = .ok (.iconst 0, 1) := by decide +kernel
theorem dc_L_look_2 : decode cb_L_look 2 = .ok (.aload_n 0, 1) := by decide +kernel
theorem dc_L_look_3 : decode cb_L_look 3 = .ok (.iload_n 1, 1) := by decide +kernel
theorem dc_L_look_4 : decode cb_L_look 4 = .ok (.iload_n 2, 1) := by decide +kernel
theorem dc_L_look_5 : decode cb_L_look 5 = .ok (.invokevirtual 42, 3) := by decide +kernel
theorem dc_L_look_8 : decode cb_L_look 8 = .ok (.i2l, 1) := by decide +kernel
theorem dc_L_look_9 : decode cb_L_look 9 = .ok (.lastore, 1) := by decide +kernel
theorem dc_L_look_10 : decode cb_L_look 10 = .ok (.goto 7, 3) := by decide +kernel
theorem dc_L_look_13 : decode cb_L_look 13 = .ok (.astore 4, 2) := by decide +kernel
theorem dc_L_look_15 : decode cb_L_look 15 = .ok (.iconst 1, 1) := by decide +kernel
theorem dc_L_look_16 : decode cb_L_look 16 = .ok (.ireturn, 1) := by decide +kernel
theorem dc_L_look_17 : decode cb_L_look 17 = .ok (.iconst 0, 1) := by decide +kernel
theorem dc_L_look_18 : decode cb_L_look 18 = .ok (.ireturn, 1) := by decide +kernel
theorem dc_L_lock_0 : decode cb_L_lock 0 = .ok (.aload_n 3, 1) := by decide +kernel
theorem dc_L_lock_1 : decode cb_L_lock 1 = .ok (.iconst 0, 1) := by decide +kernel
theorem dc_L_lock_2 : decode cb_L_lock 2 = .ok (.aload_n 0, 1) := by decide +kernel
theorem dc_L_lock_3 : decode cb_L_lock 3 = .ok (.iload_n 1, 1) := by decide +kernel
theorem dc_L_lock_4 : decode cb_L_lock 4 = .ok (.iload_n 2, 1) := by decide +kernel
theorem dc_L_lock_5 : decode cb_L_lock 5 = .ok (.invokevirtual 45, 3) := by decide +kernel
theorem dc_L_lock_8 : decode cb_L_lock 8 = .ok (.i2l, 1) := by decide +kernel
theorem dc_L_lock_9 : decode cb_L_lock 9 = .ok (.lastore, 1) := by decide +kernel
theorem dc_L_lock_10 : decode cb_L_lock 10 = .ok (.goto 7, 3) := by decide +kernel
theorem dc_L_lock_13 : decode cb_L_lock 13 = .ok (.astore 4, 2) := by decide +kernel
theorem dc_L_lock_15 : decode cb_L_lock 15 = .ok (.iconst 1, 1) := by decide +kernel
theorem dc_L_lock_16 : decode cb_L_lock 16 = .ok (.ireturn, 1) := by decide +kernel
theorem dc_L_lock_17 : decode cb_L_lock 17 = .ok (.iconst 0, 1) := by decide +kernel
theorem dc_L_lock_18 : decode cb_L_lock 18 = .ok (.ireturn, 1) := by decide +kernel
theorem dc_L_said_0 : decode cb_L_said 0 = .ok (.aload_n 2, 1) := by decide +kernel
theorem dc_L_said_1 : decode cb_L_said 1 = .ok (.iconst 0, 1) := by decide +kernel
theorem dc_L_said_2 : decode cb_L_said 2 = .ok (.aload_n 0, 1) := by decide +kernel
theorem dc_L_said_3 : decode cb_L_said 3 = .ok (.iload_n 1, 1) := by decide +kernel
theorem dc_L_said_4 : decode cb_L_said 4 = .ok (.invokevirtual 48, 3) := by decide +kernel
theorem dc_L_said_7 : decode cb_L_said 7 = .ok (.i2l, 1) := by decide +kernel
theorem dc_L_said_8 : decode cb_L_said 8 = .ok (.lastore, 1) := by decide +kernel
theorem dc_L_said_9 : decode cb_L_said 9 = .ok (.goto 6, 3) := by decide +kernel
theorem dc_L_said_12 : decode cb_L_said 12 = .ok (.astore_n 3, 1) := by decide +kernel
theorem dc_L_said_13 : decode cb_L_said 13 = .ok (.iconst 1, 1) := by decide +kernel
theorem dc_L_said_14 : decode cb_L_said 14 = .ok (.ireturn, 1) := by decide +kernel
theorem dc_L_said_15 : decode cb_L_said 15 = .ok (.iconst 0, 1) := by decide +kernel
theorem dc_L_said_16 : decode cb_L_said 16 = .ok (.ireturn, 1) := by decide +kernel
theorem dc_L_count_0 : decode cb_L_count 0 = .ok (.aload_n 2, 1) := by decide +kernel
theorem dc_L_count_1 : decode cb_L_count 1 = .ok (.iconst 0, 1) := by decide +kernel
theorem dc_L_count_2 : decode cb_L_count 2 = .ok (.aload_n 0, 1) := by decide +kernel
theorem dc_L_count_3 : decode cb_L_count 3 = .ok (.iload_n 1, 1) := by decide +kernel
theorem dc_L_count_4 : decode cb_L_count 4 = .ok (.invokevirtual 51, 3) := by decide +kernel
theorem dc_L_count_7 : decode cb_L_count 7 = .ok (.i2l, 1) := by decide +kernel
theorem dc_L_count_8 : decode cb_L_count 8 = .ok (.lastore, 1) := by decide +kernel
theorem dc_L_count_9 : decode cb_L_count 9 = .ok (.goto 6, 3) := by decide +kernel
theorem dc_L_count_12 : decode cb_L_count 12 = .ok (.astore_n 3, 1) := by decide +kernel
theorem dc_L_count_13 : decode cb_L_count 13 = .ok (.iconst 1, 1) := by decide +kernel
theorem dc_L_count_14 : decode cb_L_count 14 = .ok (.ireturn, 1) := by decide +kernel
theorem dc_L_count_15 : decode cb_L_count 15 = .ok (.iconst 0, 1) := by decide +kernel
theorem dc_L_count_16 : decode cb_L_count 16 = .ok (.ireturn, 1) := by decide +kernel
theorem ok_L_7 : th_okV rn_L 7 rn_H yn_H_add cb_H_add 6 (some .int) 4 := ⟨⟨(tb 271 (by decide +kernel) rfl), (tb 47 (by decide +kernel) rfl), (tb 268 (by decide +kernel) rfl), by decide, by decide, by decide⟩, (tb 269 (by decide +kernel) rfl), (tb 270 (by decide +kernel) rfl)⟩
theorem ok_L_19 : th_okV rn_L 19 rn_H yn_H_clear cb_H_clear 3 (some .int) 1 := ⟨⟨(tb 395 (by decide +kernel) rfl), (tb 47 (by decide +kernel) rfl), (tb 392 (by decide +kernel) rfl), by decide, by decide, by decide⟩, (tb 393 (by decide +kernel) rfl), (tb 394 (by decide +kernel) rfl)⟩
theorem ok_L_23 : th_okV rn_L 23 rn_H yn_H_start cb_H_start 2 (some .int) 1 := ⟨⟨(tb 402 (by decide +kernel) rfl), (tb 47 (by decide +kernel) rfl), (tb 399 (by decide +kernel) rfl), by decide, by decide, by decide⟩, (tb 400 (by decide +kernel) rfl), (tb 401 (by decide +kernel) rfl)⟩
theorem ok_L_26 : th_okV rn_L 26 rn_H yn_H_run cb_H_run 5 (some .int) 1 := ⟨⟨(tb 421 (by decide +kernel) rfl), (tb 47 (by decide +kernel) rfl), (tb 418 (by decide +kernel) rfl), by decide, by decide, by decide⟩, (tb 419 (by decide +kernel) rfl), (tb 420 (by decide +kernel) rfl)⟩
theorem ok_L_29 : th_okV rn_L 29 rn_H yn_H_interrupt cb_H_interrupt 2 (some .int) 1 := ⟨⟨(tb 564 (by decide +kernel) rfl), (tb 47 (by decide +kernel) rfl), (tb 561 (by decide +kernel) rfl), by decide, by decide, by decide⟩, (tb 562 (by decide +kernel) rfl), (tb 563 (by decide +kernel) rfl)⟩
theorem ok_L_32 : th_okV rn_L 32 rn_H yn_H_slice cb_H_slice 3 (some .int) 1 := ⟨⟨(tb 571 (by decide +kernel) rfl), (tb 47 (by decide +kernel) rfl), (tb 568 (by decide +kernel) rfl), by decide, by decide, by decide⟩, (tb 569 (by decide +kernel) rfl), (tb 570 (by decide +kernel) rfl)⟩
theorem ok_L_35 : th_okV rn_L 35 rn_H yn_H_global cb_H_global 4 (some .int) 2 := ⟨⟨(tb 578 (by decide +kernel) rfl), (tb 47 (by decide +kernel) rfl), (tb 575 (by decide +kernel) rfl), by decide, by decide, by decide⟩, (tb 576 (by decide +kernel) rfl), (tb 577 (by decide +kernel) rfl)⟩
theorem ok_L_39 : th_okV rn_L 39 rn_H yn_H_special cb_H_special 3 (some .int) 2 := ⟨⟨(tb 585 (by decide +kernel) rfl), (tb 47 (by decide +kernel) rfl), (tb 582 (by decide +kernel) rfl), by decide, by decide, by decide⟩, (tb 583 (by decide +kernel) rfl), (tb 584 (by decide +kernel) rfl)⟩
theorem ok_L_42 : th_okV rn_L 42 rn_H yn_H_look cb_H_look 4 (some .int) 2 := ⟨⟨(tb 592 (by decide +kernel) rfl), (tb 47 (by decide +kernel) rfl), (tb 589 (by decide +kernel) rfl), by decide, by decide, by decide⟩, (tb 590 (by decide +kernel) rfl), (tb 591 (by decide +kernel) rfl)⟩
theorem ok_L_45 : th_okV rn_L 45 rn_H yn_H_lock cb_H_lock 3 (some .int) 2 := ⟨⟨(tb 599 (by decide +kernel) rfl), (tb 47 (by decide +kernel) rfl), (tb 596 (by decide +kernel) rfl), by decide, by decide, by decide⟩, (tb 597 (by decide +kernel) rfl), (tb 598 (by decide +kernel) rfl)⟩
theorem ok_L_48 : th_okV rn_L 48 rn_H yn_H_said cb_H_said 2 (some .int) 1 := ⟨⟨(tb 606 (by decide +kernel) rfl), (tb 47 (by decide +kernel) rfl), (tb 603 (by decide +kernel) rfl), by decide, by decide, by decide⟩, (tb 604 (by decide +kernel) rfl), (tb 605 (by decide +kernel) rfl)⟩
theorem ok_L_51 : th_okV rn_L 51 rn_H yn_H_count cb_H_count 2 (some .int) 1 := ⟨⟨(tb 613 (by decide +kernel) rfl), (tb 47 (by decide +kernel) rfl), (tb 610 (by decide +kernel) rfl), by decide, by decide, by decide⟩, (tb 611 (by decide +kernel) rfl), (tb 612 (by decide +kernel) rfl)⟩
