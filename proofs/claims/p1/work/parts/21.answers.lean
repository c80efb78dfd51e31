theorem dX11_time_0 : decode cX11_time 0 = .ok (.aload_n 0, 1) := by decide +kernel
theorem dX11_time_1 : decode cX11_time 1 = .ok (.getfield 24, 3) := by decide +kernel
theorem dX11_time_4 : decode cX11_time 4 = .ok (.getfield 57, 3) := by decide +kernel
theorem dX11_time_7 : decode cX11_time 7 = .ok (.ifCond .eq 6, 3) := by decide +kernel
theorem dX11_time_13 : decode cX11_time 13 = .ok (.iload_n 1, 1) := by decide +kernel
theorem dX11_time_14 : decode cX11_time 14 = .ok (.aload_n 0, 1) := by decide +kernel
theorem dX11_time_15 : decode cX11_time 15 = .ok (.getfield 24, 3) := by decide +kernel
theorem dX11_time_18 : decode cX11_time 18 = .ok (.getfield 176, 3) := by decide +kernel
theorem dX11_time_21 : decode cX11_time 21 = .ok (.if_icmp .lt 9, 3) := by decide +kernel
theorem dX11_time_24 : decode cX11_time 24 = .ok (.iload_n 1, 1) := by decide +kernel
theorem dX11_time_25 : decode cX11_time 25 = .ok (.ldc 179, 2) := by decide +kernel
theorem dX11_time_27 : decode cX11_time 27 = .ok (.if_icmp .le 5, 3) := by decide +kernel
theorem dX11_time_30 : decode cX11_time 30 = .ok (.iconst (-1), 1) := by decide +kernel
theorem dX11_time_31 : decode cX11_time 31 = .ok (.ireturn, 1) := by decide +kernel
theorem dX11_time_32 : decode cX11_time 32 = .ok (.iload_n 1, 1) := by decide +kernel
theorem dX11_time_33 : decode cX11_time 33 = .ok (.aload_n 0, 1) := by decide +kernel
theorem dX11_time_34 : decode cX11_time 34 = .ok (.getfield 24, 3) := by decide +kernel
theorem dX11_time_37 : decode cX11_time 37 = .ok (.getfield 176, 3) := by decide +kernel
theorem dX11_time_40 : decode cX11_time 40 = .ok (.isub, 1) := by decide +kernel
theorem dX11_time_41 : decode cX11_time 41 = .ok (.istore_n 2, 1) := by decide +kernel
theorem dX11_time_42 : decode cX11_time 42 = .ok (.aload_n 0, 1) := by decide +kernel
theorem dX11_time_43 : decode cX11_time 43 = .ok (.getfield 24, 3) := by decide +kernel
theorem dX11_time_46 : decode cX11_time 46 = .ok (.iload_n 1, 1) := by decide +kernel
theorem dX11_time_47 : decode cX11_time 47 = .ok (.putfield 176, 3) := by decide +kernel
theorem dX11_time_50 : decode cX11_time 50 = .ok (.iload_n 2, 1) := by decide +kernel
theorem dX11_time_51 : decode cX11_time 51 = .ok (.ireturn, 1) := by decide +kernel
theorem dX11_seed_0 : decode cX11_seed 0 = .ok (.aload_n 0, 1) := by decide +kernel
theorem dX11_seed_1 : decode cX11_seed 1 = .ok (.getfield 24, 3) := by decide +kernel
theorem dX11_seed_4 : decode cX11_seed 4 = .ok (.getfield 57, 3) := by decide +kernel
theorem dX11_seed_7 : decode cX11_seed 7 = .ok (.ifCond .eq 6, 3) := by decide +kernel
theorem dX11_seed_13 : decode cX11_seed 13 = .ok (.aload_n 0, 1) := by decide +kernel
theorem dX11_seed_14 : decode cX11_seed 14 = .ok (.getfield 24, 3) := by decide +kernel
theorem dX11_seed_17 : decode cX11_seed 17 = .ok (.lload_n 1, 1) := by decide +kernel
theorem dX11_seed_18 : decode cX11_seed 18 = .ok (.putfield 180, 3) := by decide +kernel
theorem dX11_seed_21 : decode cX11_seed 21 = .ok (.iconst 1, 1) := by decide +kernel
theorem dX11_seed_22 : decode cX11_seed 22 = .ok (.ireturn, 1) := by decide +kernel
theorem dX11_turns_0 : decode cX11_turns 0 = .ok (.aload_n 0, 1) := by decide +kernel
theorem dX11_turns_1 : decode cX11_turns 1 = .ok (.getfield 24, 3) := by decide +kernel
theorem dX11_turns_4 : decode cX11_turns 4 = .ok (.getfield 57, 3) := by decide +kernel
theorem dX11_turns_7 : decode cX11_turns 7 = .ok (.ifCond .eq 6, 3) := by decide +kernel
theorem dX11_turns_13 : decode cX11_turns 13 = .ok (.iload_n 1, 1) := by decide +kernel
theorem dX11_turns_14 : decode cX11_turns 14 = .ok (.iconst 1, 1) := by decide +kernel
theorem dX11_turns_15 : decode cX11_turns 15 = .ok (.if_icmp .lt 10, 3) := by decide +kernel
theorem dX11_turns_18 : decode cX11_turns 18 = .ok (.iload_n 1, 1) := by decide +kernel
theorem dX11_turns_19 : decode cX11_turns 19 = .ok (.sipush 400, 3) := by decide +kernel
theorem dX11_turns_22 : decode cX11_turns 22 = .ok (.if_icmp .le 5, 3) := by decide +kernel
theorem dX11_turns_25 : decode cX11_turns 25 = .ok (.iconst (-1), 1) := by decide +kernel
theorem dX11_turns_26 : decode cX11_turns 26 = .ok (.ireturn, 1) := by decide +kernel
theorem dX11_turns_27 : decode cX11_turns 27 = .ok (.iconst 0, 1) := by decide +kernel
theorem dX11_turns_28 : decode cX11_turns 28 = .ok (.istore_n 2, 1) := by decide +kernel
theorem dX11_turns_29 : decode cX11_turns 29 = .ok (.iconst 0, 1) := by decide +kernel
theorem dX11_turns_30 : decode cX11_turns 30 = .ok (.istore_n 3, 1) := by decide +kernel
theorem dX11_turns_31 : decode cX11_turns 31 = .ok (.iload_n 3, 1) := by decide +kernel
theorem dX11_turns_32 : decode cX11_turns 32 = .ok (.iload_n 1, 1) := by decide +kernel
theorem dX11_turns_33 : decode cX11_turns 33 = .ok (.if_icmp .ge 443, 3) := by decide +kernel
theorem dX11_turns_36 : decode cX11_turns 36 = .ok (.aload_n 0, 1) := by decide +kernel
theorem dX11_turns_37 : decode cX11_turns 37 = .ok (.getfield 33, 3) := by decide +kernel
theorem dX11_turns_40 : decode cX11_turns 40 = .ok (.invokevirtual 184, 3) := by decide +kernel
theorem dX11_turns_43 : decode cX11_turns 43 = .ok (.istore 4, 2) := by decide +kernel
theorem dX11_turns_45 : decode cX11_turns 45 = .ok (.iload 4, 2) := by decide +kernel
theorem dX11_turns_47 : decode cX11_turns 47 = .ok (.iconst (-1), 1) := by decide +kernel
theorem dX11_turns_48 : decode cX11_turns 48 = .ok (.if_icmp .ne 6, 3) := by decide +kernel
theorem dX11_turns_51 : decode cX11_turns 51 = .ok (.goto 425, 3) := by decide +kernel
theorem dX11_turns_476 : decode cX11_turns 476 = .ok (.iload_n 2, 1) := by decide +kernel
theorem dX11_turns_477 : decode cX11_turns 477 = .ok (.ireturn, 1) := by decide +kernel
theorem dX11_halt_0 : decode cX11_halt 0 = .ok (.aload_n 0, 1) := by decide +kernel
theorem dX11_halt_1 : decode cX11_halt 1 = .ok (.getfield 24, 3) := by decide +kernel
theorem dX11_halt_4 : decode cX11_halt 4 = .ok (.getfield 57, 3) := by decide +kernel
theorem dX11_halt_7 : decode cX11_halt 7 = .ok (.ifCond .eq 6, 3) := by decide +kernel
theorem dX11_halt_13 : decode cX11_halt 13 = .ok (.aload_n 0, 1) := by decide +kernel
theorem dX11_halt_14 : decode cX11_halt 14 = .ok (.getfield 33, 3) := by decide +kernel
theorem dX11_halt_17 : decode cX11_halt 17 = .ok (.iload_n 1, 1) := by decide +kernel
theorem dX11_halt_18 : decode cX11_halt 18 = .ok (.invokevirtual 228, 3) := by decide +kernel
theorem dX11_halt_21 : decode cX11_halt 21 = .ok (.astore_n 2, 1) := by decide +kernel
theorem dX11_halt_22 : decode cX11_halt 22 = .ok (.aload_n 2, 1) := by decide +kernel
theorem dX11_halt_23 : decode cX11_halt 23 = .ok (.ifnonnull 5, 3) := by decide +kernel
theorem dX11_halt_26 : decode cX11_halt 26 = .ok (.iconst (-1), 1) := by decide +kernel
theorem dX11_halt_27 : decode cX11_halt 27 = .ok (.ireturn, 1) := by decide +kernel
theorem dX11_state_0 : decode cX11_state 0 = .ok (.aload_n 0, 1) := by decide +kernel
theorem dX11_state_1 : decode cX11_state 1 = .ok (.getfield 24, 3) := by decide +kernel
theorem dX11_state_4 : decode cX11_state 4 = .ok (.getfield 57, 3) := by decide +kernel
theorem dX11_state_7 : decode cX11_state 7 = .ok (.ifCond .eq 6, 3) := by decide +kernel
theorem dX11_state_13 : decode cX11_state 13 = .ok (.aload_n 0, 1) := by decide +kernel
theorem dX11_state_14 : decode cX11_state 14 = .ok (.getfield 33, 3) := by decide +kernel
theorem dX11_state_17 : decode cX11_state 17 = .ok (.iload_n 1, 1) := by decide +kernel
theorem dX11_state_18 : decode cX11_state 18 = .ok (.invokevirtual 228, 3) := by decide +kernel
theorem dX11_state_21 : decode cX11_state 21 = .ok (.astore_n 3, 1) := by decide +kernel
theorem dX11_state_22 : decode cX11_state 22 = .ok (.aload_n 3, 1) := by decide +kernel
theorem dX11_state_23 : decode cX11_state 23 = .ok (.ifnonnull 5, 3) := by decide +kernel
theorem dX11_state_26 : decode cX11_state 26 = .ok (.iconst (-1), 1) := by decide +kernel
theorem dX11_state_27 : decode cX11_state 27 = .ok (.ireturn, 1) := by decide +kernel
theorem dX11_written_0 : decode cX11_written 0 = .ok (.aload_n 0, 1) := by decide +kernel
theorem dX11_written_1 : decode cX11_written 1 = .ok (.getfield 24, 3) := by decide +kernel
theorem dX11_written_4 : decode cX11_written 4 = .ok (.getfield 57, 3) := by decide +kernel
theorem dX11_written_7 : decode cX11_written 7 = .ok (.ifCond .eq 6, 3) := by decide +kernel
theorem dX11_written_13 : decode cX11_written 13 = .ok (.aload_n 0, 1) := by decide +kernel
theorem dX11_written_14 : decode cX11_written 14 = .ok (.getfield 33, 3) := by decide +kernel
theorem dX11_written_17 : decode cX11_written 17 = .ok (.iload_n 1, 1) := by decide +kernel
theorem dX11_written_18 : decode cX11_written 18 = .ok (.invokevirtual 228, 3) := by decide +kernel
theorem dX11_written_21 : decode cX11_written 21 = .ok (.astore_n 3, 1) := by decide +kernel
theorem dX11_written_22 : decode cX11_written 22 = .ok (.aload_n 3, 1) := by decide +kernel
theorem dX11_written_23 : decode cX11_written 23 = .ok (.ifnonnull 7, 3) := by decide +kernel
theorem dX11_written_26 : decode cX11_written 26 = .ok (.iconst (-1), 1) := by decide +kernel
theorem dX11_written_27 : decode cX11_written 27 = .ok (.goto 11, 3) := by decide +kernel
theorem dX11_written_38 : decode cX11_written 38 = .ok (.ireturn, 1) := by decide +kernel
theorem dX11_take_0 : decode cX11_take 0 = .ok (.aload_n 0, 1) := by decide +kernel
theorem dX11_take_1 : decode cX11_take 1 = .ok (.getfield 24, 3) := by decide +kernel
theorem dX11_take_4 : decode cX11_take 4 = .ok (.getfield 57, 3) := by decide +kernel
theorem dX11_take_7 : decode cX11_take 7 = .ok (.ifCond .eq 6, 3) := by decide +kernel
theorem dX11_take_13 : decode cX11_take 13 = .ok (.aload_n 0, 1) := by decide +kernel
theorem dX11_take_14 : decode cX11_take 14 = .ok (.getfield 33, 3) := by decide +kernel
theorem dX11_take_17 : decode cX11_take 17 = .ok (.iload_n 1, 1) := by decide +kernel
theorem dX11_take_18 : decode cX11_take 18 = .ok (.invokevirtual 228, 3) := by decide +kernel
theorem dX11_take_21 : decode cX11_take 21 = .ok (.astore_n 2, 1) := by decide +kernel
theorem dX11_take_22 : decode cX11_take 22 = .ok (.aload_n 2, 1) := by decide +kernel
theorem dX11_take_23 : decode cX11_take 23 = .ok (.ifnonnull 5, 3) := by decide +kernel
theorem dX11_take_26 : decode cX11_take 26 = .ok (.iconst (-1), 1) := by decide +kernel
theorem dX11_take_27 : decode cX11_take 27 = .ok (.ireturn, 1) := by decide +kernel
theorem dX11_code_0 : decode cX11_code 0 = .ok (.aload_n 0, 1) := by decide +kernel
theorem dX11_code_1 : decode cX11_code 1 = .ok (.getfield 24, 3) := by decide +kernel
theorem dX11_code_4 : decode cX11_code 4 = .ok (.getfield 57, 3) := by decide +kernel
theorem dX11_code_7 : decode cX11_code 7 = .ok (.ifCond .eq 6, 3) := by decide +kernel
theorem dX11_code_13 : decode cX11_code 13 = .ok (.aload_n 0, 1) := by decide +kernel
theorem dX11_code_14 : decode cX11_code 14 = .ok (.getfield 33, 3) := by decide +kernel
theorem dX11_code_17 : decode cX11_code 17 = .ok (.iload_n 1, 1) := by decide +kernel
theorem dX11_code_18 : decode cX11_code 18 = .ok (.invokevirtual 228, 3) := by decide +kernel
theorem dX11_code_21 : decode cX11_code 21 = .ok (.astore_n 2, 1) := by decide +kernel
theorem dX11_code_22 : decode cX11_code 22 = .ok (.aload_n 2, 1) := by decide +kernel
theorem dX11_code_23 : decode cX11_code 23 = .ok (.ifnonnull 5, 3) := by decide +kernel
theorem dX11_code_26 : decode cX11_code 26 = .ok (.iconst (-1), 1) := by decide +kernel
theorem dX11_code_27 : decode cX11_code 27 = .ok (.ireturn, 1) := by decide +kernel
theorem dX11_level_0 : decode cX11_level 0 = .ok (.aload_n 0, 1) := by decide +kernel
theorem dX11_level_1 : decode cX11_level 1 = .ok (.getfield 24, 3) := by decide +kernel
theorem dX11_level_4 : decode cX11_level 4 = .ok (.getfield 57, 3) := by decide +kernel
theorem dX11_level_7 : decode cX11_level 7 = .ok (.ifCond .eq 6, 3) := by decide +kernel
theorem dX11_level_13 : decode cX11_level 13 = .ok (.aload_n 0, 1) := by decide +kernel
theorem dX11_level_14 : decode cX11_level 14 = .ok (.getfield 33, 3) := by decide +kernel
theorem dX11_level_17 : decode cX11_level 17 = .ok (.iload_n 1, 1) := by decide +kernel
theorem dX11_level_18 : decode cX11_level 18 = .ok (.invokevirtual 165, 3) := by decide +kernel
theorem dX11_level_21 : decode cX11_level 21 = .ok (.astore 4, 2) := by decide +kernel
theorem dX11_level_23 : decode cX11_level 23 = .ok (.aload 4, 2) := by decide +kernel
theorem dX11_level_25 : decode cX11_level 25 = .ok (.ifnull 11, 3) := by decide +kernel
theorem dX11_level_36 : decode cX11_level 36 = .ok (.aconst_null, 1) := by decide +kernel
theorem dX11_level_37 : decode cX11_level 37 = .ok (.goto 12, 3) := by decide +kernel
theorem dX11_level_49 : decode cX11_level 49 = .ok (.astore 5, 2) := by decide +kernel
theorem dX11_level_51 : decode cX11_level 51 = .ok (.aload 5, 2) := by decide +kernel
theorem dX11_level_53 : decode cX11_level 53 = .ok (.ifnull 20, 3) := by decide +kernel
theorem dX11_level_73 : decode cX11_level 73 = .ok (.iconst (-1), 1) := by decide +kernel
theorem dX11_level_74 : decode cX11_level 74 = .ok (.ireturn, 1) := by decide +kernel
theorem dX11_tell_0 : decode cX11_tell 0 = .ok (.aload_n 0, 1) := by decide +kernel
theorem dX11_tell_1 : decode cX11_tell 1 = .ok (.getfield 24, 3) := by decide +kernel
theorem dX11_tell_4 : decode cX11_tell 4 = .ok (.getfield 57, 3) := by decide +kernel
theorem dX11_tell_7 : decode cX11_tell 7 = .ok (.ifCond .eq 6, 3) := by decide +kernel
theorem dX11_tell_13 : decode cX11_tell 13 = .ok (.aload_n 0, 1) := by decide +kernel
theorem dX11_tell_14 : decode cX11_tell 14 = .ok (.getfield 14, 3) := by decide +kernel
theorem dX11_tell_17 : decode cX11_tell 17 = .ok (.getfield 47, 3) := by decide +kernel
theorem dX11_tell_20 : decode cX11_tell 20 = .ok (.istore_n 2, 1) := by decide +kernel
theorem dX11_tell_21 : decode cX11_tell 21 = .ok (.aload_n 0, 1) := by decide +kernel
theorem dX11_tell_22 : decode cX11_tell 22 = .ok (.getfield 14, 3) := by decide +kernel
theorem dX11_tell_25 : decode cX11_tell 25 = .ok (.invokevirtual 61, 3) := by decide +kernel
theorem dX11_tell_28 : decode cX11_tell 28 = .ok (.aload_n 0, 1) := by decide +kernel
theorem dX11_tell_29 : decode cX11_tell 29 = .ok (.getfield 33, 3) := by decide +kernel
theorem dX11_tell_32 : decode cX11_tell 32 = .ok (.iload_n 1, 1) := by decide +kernel
theorem dX11_tell_33 : decode cX11_tell 33 = .ok (.invokevirtual 165, 3) := by decide +kernel
theorem dX11_tell_36 : decode cX11_tell 36 = .ok (.astore_n 3, 1) := by decide +kernel
theorem dX11_tell_37 : decode cX11_tell 37 = .ok (.aload_n 3, 1) := by decide +kernel
theorem dX11_tell_38 : decode cX11_tell 38 = .ok (.ifnull 10, 3) := by decide +kernel
theorem dX11_tell_48 : decode cX11_tell 48 = .ok (.iconst (-1), 1) := by decide +kernel
theorem dX11_tell_49 : decode cX11_tell 49 = .ok (.ireturn, 1) := by decide +kernel
theorem dX11_result_0 : decode cX11_result 0 = .ok (.aload_n 0, 1) := by decide +kernel
theorem dX11_result_1 : decode cX11_result 1 = .ok (.getfield 18, 3) := by decide +kernel
theorem dX11_result_4 : decode cX11_result 4 = .ok (.iload_n 1, 1) := by decide +kernel
theorem dX11_result_5 : decode cX11_result 5 = .ok (.invokevirtual 276, 3) := by decide +kernel
theorem dX11_result_8 : decode cX11_result 8 = .ok (.ireturn, 1) := by decide +kernel
theorem dX11_lock_0 : decode cX11_lock 0 = .ok (.aload_n 0, 1) := by decide +kernel
theorem dX11_lock_1 : decode cX11_lock 1 = .ok (.getfield 24, 3) := by decide +kernel
theorem dX11_lock_4 : decode cX11_lock 4 = .ok (.getfield 57, 3) := by decide +kernel
theorem dX11_lock_7 : decode cX11_lock 7 = .ok (.ifCond .eq 6, 3) := by decide +kernel
theorem dX11_lock_13 : decode cX11_lock 13 = .ok (.iload_n 2, 1) := by decide +kernel
theorem dX11_lock_14 : decode cX11_lock 14 = .ok (.ifCond .lt 8, 3) := by decide +kernel
theorem dX11_lock_17 : decode cX11_lock 17 = .ok (.iload_n 2, 1) := by decide +kernel
theorem dX11_lock_18 : decode cX11_lock 18 = .ok (.iconst 2, 1) := by decide +kernel
theorem dX11_lock_19 : decode cX11_lock 19 = .ok (.if_icmp .le 7, 3) := by decide +kernel
theorem dX11_lock_22 : decode cX11_lock 22 = .ok (.aconst_null, 1) := by decide +kernel
theorem dX11_lock_23 : decode cX11_lock 23 = .ok (.goto 11, 3) := by decide +kernel
theorem dX11_lock_26 : decode cX11_lock 26 = .ok (.aload_n 0, 1) := by decide +kernel
theorem dX11_lock_27 : decode cX11_lock 27 = .ok (.getfield 24, 3) := by decide +kernel
theorem dX11_lock_30 : decode cX11_lock 30 = .ok (.iload_n 1, 1) := by decide +kernel
theorem dX11_lock_31 : decode cX11_lock 31 = .ok (.invokevirtual 319, 3) := by decide +kernel
theorem dX11_lock_34 : decode cX11_lock 34 = .ok (.astore_n 3, 1) := by decide +kernel
theorem dX11_lock_35 : decode cX11_lock 35 = .ok (.aload_n 3, 1) := by decide +kernel
theorem dX11_lock_36 : decode cX11_lock 36 = .ok (.ifnonnull 5, 3) := by decide +kernel
theorem dX11_lock_39 : decode cX11_lock 39 = .ok (.iconst (-1), 1) := by decide +kernel
theorem dX11_lock_40 : decode cX11_lock 40 = .ok (.ireturn, 1) := by decide +kernel
theorem dX11_sound_0 : decode cX11_sound 0 = .ok (.aload_n 0, 1) := by decide +kernel
theorem dX11_sound_1 : decode cX11_sound 1 = .ok (.getfield 24, 3) := by decide +kernel
theorem dX11_sound_4 : decode cX11_sound 4 = .ok (.getfield 57, 3) := by decide +kernel
theorem dX11_sound_7 : decode cX11_sound 7 = .ok (.ifCond .eq 6, 3) := by decide +kernel
theorem dX11_sound_13 : decode cX11_sound 13 = .ok (.aload_n 0, 1) := by decide +kernel
theorem dX11_sound_14 : decode cX11_sound 14 = .ok (.getfield 24, 3) := by decide +kernel
theorem dX11_sound_17 : decode cX11_sound 17 = .ok (.getfield 332, 3) := by decide +kernel
theorem dX11_sound_20 : decode cX11_sound 20 = .ok (.invokevirtual 363, 3) := by decide +kernel
theorem dX11_sound_23 : decode cX11_sound 23 = .ok (.ifCond .eq 20, 3) := by decide +kernel
theorem dX11_sound_26 : decode cX11_sound 26 = .ok (.aload_n 0, 1) := by decide +kernel
theorem dX11_sound_27 : decode cX11_sound 27 = .ok (.getfield 33, 3) := by decide +kernel
theorem dX11_sound_30 : decode cX11_sound 30 = .ok (.getfield 341, 3) := by decide +kernel
theorem dX11_sound_33 : decode cX11_sound 33 = .ok (.invokevirtual 363, 3) := by decide +kernel
theorem dX11_sound_36 : decode cX11_sound 36 = .ok (.ifCond .eq 7, 3) := by decide +kernel
theorem dX11_sound_39 : decode cX11_sound 39 = .ok (.iconst 1, 1) := by decide +kernel
theorem dX11_sound_40 : decode cX11_sound 40 = .ok (.goto 4, 3) := by decide +kernel
theorem dX11_sound_44 : decode cX11_sound 44 = .ok (.ireturn, 1) := by decide +kernel
theorem dX11_cut_0 : decode cX11_cut 0 = .ok (.aload_n 0, 1) := by decide +kernel
theorem dX11_cut_1 : decode cX11_cut 1 = .ok (.getfield 24, 3) := by decide +kernel
theorem dX11_cut_4 : decode cX11_cut 4 = .ok (.getfield 57, 3) := by decide +kernel
theorem dX11_cut_7 : decode cX11_cut 7 = .ok (.ifCond .eq 6, 3) := by decide +kernel
theorem dX11_cut_13 : decode cX11_cut 13 = .ok (.iload_n 1, 1) := by decide +kernel
theorem dX11_cut_14 : decode cX11_cut 14 = .ok (.iconst (-1), 1) := by decide +kernel
theorem dX11_cut_15 : decode cX11_cut 15 = .ok (.if_icmp .lt 21, 3) := by decide +kernel
theorem dX11_cut_18 : decode cX11_cut 18 = .ok (.iload_n 1, 1) := by decide +kernel
theorem dX11_cut_19 : decode cX11_cut 19 = .ok (.sipush 2000, 3) := by decide +kernel
theorem dX11_cut_22 : decode cX11_cut 22 = .ok (.if_icmp .gt 14, 3) := by decide +kernel
theorem dX11_cut_25 : decode cX11_cut 25 = .ok (.iload_n 2, 1) := by decide +kernel
theorem dX11_cut_26 : decode cX11_cut 26 = .ok (.ifCond .lt 10, 3) := by decide +kernel
theorem dX11_cut_29 : decode cX11_cut 29 = .ok (.iload_n 2, 1) := by decide +kernel
theorem dX11_cut_30 : decode cX11_cut 30 = .ok (.sipush 256, 3) := by decide +kernel
theorem dX11_cut_33 : decode cX11_cut 33 = .ok (.if_icmp .lt 5, 3) := by decide +kernel
theorem dX11_cut_36 : decode cX11_cut 36 = .ok (.iconst (-1), 1) := by decide +kernel
theorem dX11_cut_37 : decode cX11_cut 37 = .ok (.ireturn, 1) := by decide +kernel
theorem dX11_cut_38 : decode cX11_cut 38 = .ok (.aload_n 0, 1) := by decide +kernel
theorem dX11_cut_39 : decode cX11_cut 39 = .ok (.getfield 24, 3) := by decide +kernel
theorem dX11_cut_42 : decode cX11_cut 42 = .ok (.iload_n 1, 1) := by decide +kernel
theorem dX11_cut_43 : decode cX11_cut 43 = .ok (.putfield 369, 3) := by decide +kernel
theorem dX11_cut_46 : decode cX11_cut 46 = .ok (.aload_n 0, 1) := by decide +kernel
theorem dX11_cut_47 : decode cX11_cut 47 = .ok (.getfield 24, 3) := by decide +kernel
theorem dX11_cut_50 : decode cX11_cut 50 = .ok (.iload_n 2, 1) := by decide +kernel
theorem dX11_cut_51 : decode cX11_cut 51 = .ok (.putfield 372, 3) := by decide +kernel
theorem dX11_cut_54 : decode cX11_cut 54 = .ok (.iconst 1, 1) := by decide +kernel
theorem dX11_cut_55 : decode cX11_cut 55 = .ok (.ireturn, 1) := by decide +kernel
theorem dX11_start_0 : decode cX11_start 0 = .ok (.aload_n 0, 1) := by decide +kernel
theorem dX11_start_1 : decode cX11_start 1 = .ok (.getfield 24, 3) := by decide +kernel
theorem dX11_start_4 : decode cX11_start 4 = .ok (.getfield 57, 3) := by decide +kernel
theorem dX11_start_7 : decode cX11_start 7 = .ok (.ifCond .ne 6, 3) := by decide +kernel
theorem dX11_start_10 : decode cX11_start 10 = .ok (.bipush (-3), 2) := by decide +kernel
theorem dX11_start_12 : decode cX11_start 12 = .ok (.ireturn, 1) := by decide +kernel
theorem dX11_verify_0 : decode cX11_verify 0 = .ok (.aload_n 0, 1) := by decide +kernel
theorem dX11_verify_1 : decode cX11_verify 1 = .ok (.getfield 24, 3) := by decide +kernel
theorem dX11_verify_4 : decode cX11_verify 4 = .ok (.getfield 57, 3) := by decide +kernel
theorem dX11_verify_7 : decode cX11_verify 7 = .ok (.ifCond .eq 6, 3) := by decide +kernel
theorem dX11_verify_13 : decode cX11_verify 13 = .ok (.iconst 1, 1) := by decide +kernel
theorem dX11_verify_14 : decode cX11_verify 14 = .ok (.istore_n 1, 1) := by decide +kernel
theorem dX11_verify_15 : decode cX11_verify 15 = .ok (.iload_n 1, 1) := by decide +kernel
theorem dX11_verify_16 : decode cX11_verify 16 = .ok (.aload_n 0, 1) := by decide +kernel
theorem dX11_verify_17 : decode cX11_verify 17 = .ok (.getfield 24, 3) := by decide +kernel
theorem dX11_verify_20 : decode cX11_verify 20 = .ok (.getfield 357, 3) := by decide +kernel
theorem dX11_verify_23 : decode cX11_verify 23 = .ok (.if_icmp .gt 22, 3) := by decide +kernel
theorem dX11_verify_45 : decode cX11_verify 45 = .ok (.iconst (-1), 1) := by decide +kernel
theorem dX11_verify_46 : decode cX11_verify 46 = .ok (.ireturn, 1) := by decide +kernel
theorem dX11_end_0 : decode cX11_end 0 = .ok (.iload_n 1, 1) := by decide +kernel
theorem dX11_end_1 : decode cX11_end 1 = .ok (.ifCond .lt 14, 3) := by decide +kernel
theorem dX11_end_4 : decode cX11_end 4 = .ok (.iload_n 1, 1) := by decide +kernel
theorem dX11_end_5 : decode cX11_end 5 = .ok (.aload_n 0, 1) := by decide +kernel
theorem dX11_end_6 : decode cX11_end 6 = .ok (.getfield 14, 3) := by decide +kernel
theorem dX11_end_9 : decode cX11_end 9 = .ok (.getfield 47, 3) := by decide +kernel
theorem dX11_end_12 : decode cX11_end 12 = .ok (.if_icmp .le 5, 3) := by decide +kernel
theorem dX11_end_15 : decode cX11_end 15 = .ok (.iconst (-1), 1) := by decide +kernel
theorem dX11_end_16 : decode cX11_end 16 = .ok (.ireturn, 1) := by decide +kernel
theorem dX11_end_17 : decode cX11_end 17 = .ok (.aload_n 0, 1) := by decide +kernel
theorem dX11_end_18 : decode cX11_end 18 = .ok (.getfield 14, 3) := by decide +kernel
theorem dX11_end_21 : decode cX11_end 21 = .ok (.iload_n 1, 1) := by decide +kernel
theorem dX11_end_22 : decode cX11_end 22 = .ok (.putfield 47, 3) := by decide +kernel
theorem dX11_end_25 : decode cX11_end 25 = .ok (.iload_n 1, 1) := by decide +kernel
theorem dX11_end_26 : decode cX11_end 26 = .ok (.ireturn, 1) := by decide +kernel
theorem dX11_save_0 : decode cX11_save 0 = .ok (.aload_n 0, 1) := by decide +kernel
theorem dX11_save_1 : decode cX11_save 1 = .ok (.getfield 24, 3) := by decide +kernel
theorem dX11_save_4 : decode cX11_save 4 = .ok (.getfield 57, 3) := by decide +kernel
theorem dX11_save_7 : decode cX11_save 7 = .ok (.ifCond .eq 6, 3) := by decide +kernel
theorem dX11_save_13 : decode cX11_save 13 = .ok (.aload_n 0, 1) := by decide +kernel
theorem dX11_save_14 : decode cX11_save 14 = .ok (.getfield 14, 3) := by decide +kernel
theorem dX11_save_17 : decode cX11_save 17 = .ok (.getfield 47, 3) := by decide +kernel
theorem dX11_save_20 : decode cX11_save 20 = .ok (.istore_n 2, 1) := by decide +kernel
theorem dX11_save_21 : decode cX11_save 21 = .ok (.aload_n 0, 1) := by decide +kernel
theorem dX11_save_22 : decode cX11_save 22 = .ok (.getfield 14, 3) := by decide +kernel
theorem dX11_save_25 : decode cX11_save 25 = .ok (.invokevirtual 61, 3) := by decide +kernel
theorem dX11_save_28 : decode cX11_save 28 = .ok (.iload_n 1, 1) := by decide +kernel
theorem dX11_save_29 : decode cX11_save 29 = .ok (.iconst 1, 1) := by decide +kernel
theorem dX11_save_30 : decode cX11_save 30 = .ok (.if_icmp .lt 14, 3) := by decide +kernel
theorem dX11_save_33 : decode cX11_save 33 = .ok (.iload_n 1, 1) := by decide +kernel
theorem dX11_save_34 : decode cX11_save 34 = .ok (.bipush 8, 2) := by decide +kernel
theorem dX11_save_36 : decode cX11_save 36 = .ok (.if_icmp .gt 8, 3) := by decide +kernel
theorem dX11_save_39 : decode cX11_save 39 = .ok (.iload_n 1, 1) := by decide +kernel
theorem dX11_save_40 : decode cX11_save 40 = .ok (.iload_n 2, 1) := by decide +kernel
theorem dX11_save_41 : decode cX11_save 41 = .ok (.if_icmp .le 5, 3) := by decide +kernel
theorem dX11_save_44 : decode cX11_save 44 = .ok (.iconst (-1), 1) := by decide +kernel
theorem dX11_save_45 : decode cX11_save 45 = .ok (.ireturn, 1) := by decide +kernel
theorem dX11_count_0 : decode cX11_count 0 = .ok (.aload_n 0, 1) := by decide +kernel
theorem dX11_count_1 : decode cX11_count 1 = .ok (.getfield 24, 3) := by decide +kernel
theorem dX11_count_4 : decode cX11_count 4 = .ok (.getfield 57, 3) := by decide +kernel
theorem dX11_count_7 : decode cX11_count 7 = .ok (.ifCond .eq 6, 3) := by decide +kernel
theorem dX11_count_13 : decode cX11_count 13 = .ok (.iload_n 1, 1) := by decide +kernel
theorem dX11_count_14 : decode cX11_count 14 = .ok (.tableswitch 213 0 14 #[74, 82, 93, 104, 112, 120, 128, 138, 148, 158, 168, 178, 186, 194, 205], 74) := by decide +kernel
theorem dX11_count_88 : decode cX11_count 88 = .ok (.aload_n 0, 1) := by decide +kernel
theorem dX11_count_89 : decode cX11_count 89 = .ok (.getfield 24, 3) := by decide +kernel
theorem dX11_count_92 : decode cX11_count 92 = .ok (.getfield 108, 3) := by decide +kernel
theorem dX11_count_95 : decode cX11_count 95 = .ok (.ireturn, 1) := by decide +kernel
theorem dX11_count_96 : decode cX11_count 96 = .ok (.aload_n 0, 1) := by decide +kernel
theorem dX11_count_97 : decode cX11_count 97 = .ok (.getfield 24, 3) := by decide +kernel
theorem dX11_count_100 : decode cX11_count 100 = .ok (.getfield 332, 3) := by decide +kernel
theorem dX11_count_103 : decode cX11_count 103 = .ok (.getfield 336, 3) := by decide +kernel
theorem dX11_count_106 : decode cX11_count 106 = .ok (.ireturn, 1) := by decide +kernel
theorem dX11_count_107 : decode cX11_count 107 = .ok (.aload_n 0, 1) := by decide +kernel
theorem dX11_count_108 : decode cX11_count 108 = .ok (.getfield 33, 3) := by decide +kernel
theorem dX11_count_111 : decode cX11_count 111 = .ok (.getfield 341, 3) := by decide +kernel
theorem dX11_count_114 : decode cX11_count 114 = .ok (.getfield 336, 3) := by decide +kernel
theorem dX11_count_117 : decode cX11_count 117 = .ok (.ireturn, 1) := by decide +kernel
theorem dX11_count_118 : decode cX11_count 118 = .ok (.aload_n 0, 1) := by decide +kernel
theorem dX11_count_119 : decode cX11_count 119 = .ok (.getfield 33, 3) := by decide +kernel
theorem dX11_count_122 : decode cX11_count 122 = .ok (.getfield 344, 3) := by decide +kernel
theorem dX11_count_125 : decode cX11_count 125 = .ok (.ireturn, 1) := by decide +kernel
theorem dX11_count_126 : decode cX11_count 126 = .ok (.aload_n 0, 1) := by decide +kernel
theorem dX11_count_127 : decode cX11_count 127 = .ok (.getfield 33, 3) := by decide +kernel
theorem dX11_count_130 : decode cX11_count 130 = .ok (.invokevirtual 347, 3) := by decide +kernel
theorem dX11_count_133 : decode cX11_count 133 = .ok (.ireturn, 1) := by decide +kernel
theorem dX11_count_134 : decode cX11_count 134 = .ok (.aload_n 0, 1) := by decide +kernel
theorem dX11_count_135 : decode cX11_count 135 = .ok (.getfield 24, 3) := by decide +kernel
theorem dX11_count_138 : decode cX11_count 138 = .ok (.getfield 350, 3) := by decide +kernel
theorem dX11_count_141 : decode cX11_count 141 = .ok (.ireturn, 1) := by decide +kernel
theorem dX11_count_142 : decode cX11_count 142 = .ok (.aload_n 0, 1) := by decide +kernel
theorem dX11_count_143 : decode cX11_count 143 = .ok (.getfield 24, 3) := by decide +kernel
theorem dX11_count_146 : decode cX11_count 146 = .ok (.getfield 353, 3) := by decide +kernel
theorem dX11_count_149 : decode cX11_count 149 = .ok (.iconst 0, 1) := by decide +kernel
theorem dX11_count_150 : decode cX11_count 150 = .ok (.iaload, 1) := by decide +kernel
theorem dX11_count_151 : decode cX11_count 151 = .ok (.ireturn, 1) := by decide +kernel
theorem dX11_count_152 : decode cX11_count 152 = .ok (.aload_n 0, 1) := by decide +kernel
theorem dX11_count_153 : decode cX11_count 153 = .ok (.getfield 24, 3) := by decide +kernel
theorem dX11_count_156 : decode cX11_count 156 = .ok (.getfield 353, 3) := by decide +kernel
theorem dX11_count_159 : decode cX11_count 159 = .ok (.iconst 1, 1) := by decide +kernel
theorem dX11_count_160 : decode cX11_count 160 = .ok (.iaload, 1) := by decide +kernel
theorem dX11_count_161 : decode cX11_count 161 = .ok (.ireturn, 1) := by decide +kernel
theorem dX11_count_162 : decode cX11_count 162 = .ok (.aload_n 0, 1) := by decide +kernel
theorem dX11_count_163 : decode cX11_count 163 = .ok (.getfield 24, 3) := by decide +kernel
theorem dX11_count_166 : decode cX11_count 166 = .ok (.getfield 353, 3) := by decide +kernel
theorem dX11_count_169 : decode cX11_count 169 = .ok (.iconst 2, 1) := by decide +kernel
theorem dX11_count_170 : decode cX11_count 170 = .ok (.iaload, 1) := by decide +kernel
theorem dX11_count_171 : decode cX11_count 171 = .ok (.ireturn, 1) := by decide +kernel
theorem dX11_count_172 : decode cX11_count 172 = .ok (.aload_n 0, 1) := by decide +kernel
theorem dX11_count_173 : decode cX11_count 173 = .ok (.getfield 24, 3) := by decide +kernel
theorem dX11_count_176 : decode cX11_count 176 = .ok (.getfield 353, 3) := by decide +kernel
theorem dX11_count_179 : decode cX11_count 179 = .ok (.iconst 3, 1) := by decide +kernel
theorem dX11_count_180 : decode cX11_count 180 = .ok (.iaload, 1) := by decide +kernel
theorem dX11_count_181 : decode cX11_count 181 = .ok (.ireturn, 1) := by decide +kernel
theorem dX11_count_182 : decode cX11_count 182 = .ok (.aload_n 0, 1) := by decide +kernel
theorem dX11_count_183 : decode cX11_count 183 = .ok (.getfield 24, 3) := by decide +kernel
theorem dX11_count_186 : decode cX11_count 186 = .ok (.getfield 353, 3) := by decide +kernel
theorem dX11_count_189 : decode cX11_count 189 = .ok (.iconst 4, 1) := by decide +kernel
theorem dX11_count_190 : decode cX11_count 190 = .ok (.iaload, 1) := by decide +kernel
theorem dX11_count_191 : decode cX11_count 191 = .ok (.ireturn, 1) := by decide +kernel
theorem dX11_count_192 : decode cX11_count 192 = .ok (.aload_n 0, 1) := by decide +kernel
theorem dX11_count_193 : decode cX11_count 193 = .ok (.getfield 24, 3) := by decide +kernel
theorem dX11_count_196 : decode cX11_count 196 = .ok (.getfield 357, 3) := by decide +kernel
theorem dX11_count_199 : decode cX11_count 199 = .ok (.ireturn, 1) := by decide +kernel
theorem dX11_count_200 : decode cX11_count 200 = .ok (.aload_n 0, 1) := by decide +kernel
theorem dX11_count_201 : decode cX11_count 201 = .ok (.getfield 24, 3) := by decide +kernel
theorem dX11_count_204 : decode cX11_count 204 = .ok (.getfield 360, 3) := by decide +kernel
theorem dX11_count_207 : decode cX11_count 207 = .ok (.ireturn, 1) := by decide +kernel
theorem dX11_count_208 : decode cX11_count 208 = .ok (.aload_n 0, 1) := by decide +kernel
theorem dX11_count_209 : decode cX11_count 209 = .ok (.getfield 24, 3) := by decide +kernel
theorem dX11_count_212 : decode cX11_count 212 = .ok (.getfield 114, 3) := by decide +kernel
theorem dX11_count_215 : decode cX11_count 215 = .ok (.getfield 47, 3) := by decide +kernel
theorem dX11_count_218 : decode cX11_count 218 = .ok (.ireturn, 1) := by decide +kernel
theorem dX11_count_219 : decode cX11_count 219 = .ok (.aload_n 0, 1) := by decide +kernel
theorem dX11_count_220 : decode cX11_count 220 = .ok (.getfield 24, 3) := by decide +kernel
theorem dX11_count_223 : decode cX11_count 223 = .ok (.getfield 176, 3) := by decide +kernel
theorem dX11_count_226 : decode cX11_count 226 = .ok (.ireturn, 1) := by decide +kernel
theorem dX11_count_227 : decode cX11_count 227 = .ok (.iconst (-1), 1) := by decide +kernel
theorem dX11_count_228 : decode cX11_count 228 = .ok (.ireturn, 1) := by decide +kernel
set_option maxHeartbeats 8000000 in
set_option maxRecDepth 100000 in
/--  -/
theorem c_time (l : Launch) (D : va_G) (x : Nat → ClassId) (n0 : Int32) (h0 : Nat) (f0 : Nat → Value) (ho : Nat) (fh : Nat → Value) (sz : Nat) (h0_2 : f0 2 = .ref ho) (h1_12 : fh 12 = .int 0) (h1_15 : fh 15 = .int 0) : Met l yX11_time (.code yX11_time cX11_time 3 (some .int) :: zW) ({ frames := 0, cells := (0), slots := (0), locals := 0 }) (va_Pc [.ref h0, .int n0] (fun U => U.heap.size = sz ∧ va_P D vwCl [(h0, .inr (11, zf 6 f0)), (ho, .inr (0, zf 18 fh))] U.heap ∧ zK x D U ∧ va_D (fun _ => True) [(h0, .inr (11, zf 6 f0)), (ho, .inr (0, zf 18 fh))])) (va_Qi (fun (r : Int32) (u : Unit) => r = (zTime n0)) (fun u t => True) (va_A [(h0, .inr (11, zf 6 f0)), (ho, .inr (0, zf 18 fh))] sz)) (0) (0) (va_A [(h0, .inr (11, zf 6 f0)), (ho, .inr (0, zf 18 fh))] sz) := by
  refine Met.ofW (cc := cX11_time) (maxL := 3) (ret := (some .int)) (by decide) rfl ?_
  intro p e s m args below meth c s₁ B hml hv
  obtain ⟨rfl, hsz, hP, hZ, hD0⟩ := hv
  have hK := hZ.1
  have hx := B.exec
  have hb := B.bytes
  have hr := B.returns
  have hts := atoms_spec (ws := .code yX11_time cX11_time 3 (some .int) :: zW) B.pre
  have hown : s.vm.findClass RX11 = some m.cls := findClass_of_methodNamed B.named
  have hlocks := B.notSynchronized
  subst hsz
  have hD := hD0.self (sz := s.heap.size)
  generalize hAe : va_A [(h0, .inr (11, zf 6 f0)), (ho, .inr (0, zf 18 fh))] s.heap.size = A at hD ⊢
  have hA : ∀ q : Nat, s.heap.size ≤ q → A q := fun q h => by rw [← hAe]; exact Or.inr h
  have hS : va_S A s.heap s.heap [] := va_S.rf
  have hP : va_P D vwCl [(h0, .inr (11, zf 6 f0)), (ho, .inr (0, zf 18 fh))] s.heap := hP
  have hl := lv_entry ([.ref h0, .int n0]) (n := 3) (Nat.le_of_ble_eq_true rfl)
  rw [lg_entry_eq]
  generalize (lg_sl ([.ref h0, .int n0]) ++ List.replicate (3 - (lg_sl ([.ref h0, .int n0])).length) Slot.unset).toArray = ls at hl ⊢
  have hl : lv_has ls 3 [(0, .ref h0), (1, .int n0)] := hl
  refine lv_aload_n hx hb dX11_time_0 rfl (lv_at hl 0 rfl) ?_
  refine z_get (T := TX11) (N := 6) (ci := 11) hx hb hts (zi_11 _) hown hK hP 0 rfl rfl 2 (by decide) (hts _ (zm_175 _)) rfl h0_2 dX11_time_1 ?_
  refine z_getN (T := TX0) (N := 18) (ci := 0) hx hb hts (zi_0 _) hown hK hP 1 rfl rfl 12 (by decide) (hZ.2.1 _ zn_30) rfl h1_12 dX11_time_4 ?_
  refine lv_if_eq (tgt := 13) hx hb dX11_time_7 (by decide) (fun _ => ?_) (fun c9 => absurd (by decide) c9)
  refine lv_iload_n hx hb dX11_time_13 rfl (lv_at hl 1 rfl) ?_
  refine lv_aload_n hx hb dX11_time_14 rfl (lv_at hl 0 rfl) ?_
  refine z_get (T := TX11) (N := 6) (ci := 11) hx hb hts (zi_11 _) hown hK hP 0 rfl rfl 2 (by decide) (hts _ (zm_175 _)) rfl h0_2 dX11_time_15 ?_
  refine z_getN (T := TX0) (N := 18) (ci := 0) hx hb hts (zi_0 _) hown hK hP 1 rfl rfl 15 (by decide) (hZ.2.1 _ zn_54) rfl h1_15 dX11_time_18 ?_
  refine lv_icmp_lt (tgt := 30) hx hb dX11_time_21 (by decide) (fun c_1 => ?_) (fun c_1 => ?_)
  · skip
    refine lv_iconst (v := (-1)) hx hb dX11_time_30 (by decide) ?_
    refine W.widen (k := 0) (n := 0) (Nat.le_of_ble_eq_true rfl) (Nat.le_of_ble_eq_true rfl) ?_
    exact W.iret (v := (-1)) hx hb hr (fun t ht hW => ⟨⟨_, (), rfl, by simp [zTime, *], trivial⟩, hS.F ht⟩) hS.2.2 dX11_time_31
  · skip
    refine lv_iload_n hx hb dX11_time_24 rfl (lv_at hl 1 rfl) ?_
    refine lv_ldc hx hb hown (hts _ (zm_222 _)) dX11_time_25 ?_
    refine lv_icmp_le (tgt := 32) hx hb dX11_time_27 (by decide) (fun c_2 => ?_) (fun c_2 => ?_)
    · skip
      refine lv_iload_n hx hb dX11_time_32 rfl (lv_at hl 1 rfl) ?_
      refine lv_aload_n hx hb dX11_time_33 rfl (lv_at hl 0 rfl) ?_
      refine z_get (T := TX11) (N := 6) (ci := 11) hx hb hts (zi_11 _) hown hK hP 0 rfl rfl 2 (by decide) (hts _ (zm_175 _)) rfl h0_2 dX11_time_34 ?_
      refine z_getN (T := TX0) (N := 18) (ci := 0) hx hb hts (zi_0 _) hown hK hP 1 rfl rfl 15 (by decide) (hZ.2.1 _ zn_54) rfl h1_15 dX11_time_37 ?_
      refine lv_isub hx hb dX11_time_40 ?_
      refine lv_topi (fun y_4 ex_3 => ?_)
      refine lv_istore_n (lv' := [(2, .int y_4), (0, .ref h0), (1, .int n0)]) hx hb dX11_time_41 rfl hl (by decide) rfl (fun ls hl => ?_)
      refine lv_aload_n hx hb dX11_time_42 rfl (lv_at hl 1 rfl) ?_
      refine z_get (T := TX11) (N := 6) (ci := 11) hx hb hts (zi_11 _) hown hK hP 0 rfl rfl 2 (by decide) (hts _ (zm_175 _)) rfl h0_2 dX11_time_43 ?_
      refine lv_iload_n hx hb dX11_time_46 rfl (lv_at hl 2 rfl) ?_
      refine z_putN (T := TX0) (N := 18) (ci := 0) hx hb hts (zi_0 _) hown hK hP hD hS 1 rfl rfl 15 (by decide) (hZ.2.1 _ zn_54) rfl rfl rfl rfl dX11_time_47 (fun H locs f_5 ek_6 ok_7 hP hD hS => ?_)
      have hP : va_P D vwCl [(h0, .inr (11, zf 6 f0)), (ho, .inr (0, zf 18 f_5))] H := hP
      have hD : va_D A [(h0, .inr (11, zf 6 f0)), (ho, .inr (0, zf 18 f_5))] := hD
      refine lv_iload_n hx hb dX11_time_50 rfl (lv_at hl 0 rfl) ?_
      refine W.widen (k := 0) (n := 0) (Nat.le_of_ble_eq_true rfl) (Nat.le_of_ble_eq_true rfl) ?_
      exact W.iret (v := y_4) hx hb hr (fun t ht hW => ⟨⟨_, (), rfl, by simp [zTime, *], trivial⟩, hS.F ht⟩) hS.2.2 dX11_time_51
    · skip
      refine lv_iconst (v := (-1)) hx hb dX11_time_30 (by decide) ?_
      refine W.widen (k := 0) (n := 0) (Nat.le_of_ble_eq_true rfl) (Nat.le_of_ble_eq_true rfl) ?_
      exact W.iret (v := (-1)) hx hb hr (fun t ht hW => ⟨⟨_, (), rfl, by simp [zTime, *], trivial⟩, hS.F ht⟩) hS.2.2 dX11_time_31

set_option maxHeartbeats 8000000 in
set_option maxRecDepth 100000 in
/--  -/
theorem c_seed (l : Launch) (D : va_G) (x : Nat → ClassId) (n0 : Int64) (h0 : Nat) (f0 : Nat → Value) (ho : Nat) (fh : Nat → Value) (sz : Nat) (h0_2 : f0 2 = .ref ho) (h1_12 : fh 12 = .int 0) : Met l yX11_seed (.code yX11_seed cX11_seed 3 (some .int) :: zW) ({ frames := 0, cells := (0), slots := (0), locals := 0 }) (va_Pc [.ref h0, .long n0] (fun U => U.heap.size = sz ∧ va_P D vwCl [(h0, .inr (11, zf 6 f0)), (ho, .inr (0, zf 18 fh))] U.heap ∧ zK x D U ∧ va_D (fun _ => True) [(h0, .inr (11, zf 6 f0)), (ho, .inr (0, zf 18 fh))])) (va_Qi (fun (r : Int32) (u : Unit) => r = 1) (fun u t => True) (va_A [(h0, .inr (11, zf 6 f0)), (ho, .inr (0, zf 18 fh))] sz)) (0) (0) (va_A [(h0, .inr (11, zf 6 f0)), (ho, .inr (0, zf 18 fh))] sz) := by
  refine Met.ofW (cc := cX11_seed) (maxL := 3) (ret := (some .int)) (by decide) rfl ?_
  intro p e s m args below meth c s₁ B hml hv
  obtain ⟨rfl, hsz, hP, hZ, hD0⟩ := hv
  have hK := hZ.1
  have hx := B.exec
  have hb := B.bytes
  have hr := B.returns
  have hts := atoms_spec (ws := .code yX11_seed cX11_seed 3 (some .int) :: zW) B.pre
  have hown : s.vm.findClass RX11 = some m.cls := findClass_of_methodNamed B.named
  have hlocks := B.notSynchronized
  subst hsz
  have hD := hD0.self (sz := s.heap.size)
  generalize hAe : va_A [(h0, .inr (11, zf 6 f0)), (ho, .inr (0, zf 18 fh))] s.heap.size = A at hD ⊢
  have hA : ∀ q : Nat, s.heap.size ≤ q → A q := fun q h => by rw [← hAe]; exact Or.inr h
  have hS : va_S A s.heap s.heap [] := va_S.rf
  have hP : va_P D vwCl [(h0, .inr (11, zf 6 f0)), (ho, .inr (0, zf 18 fh))] s.heap := hP
  have hl := lv_entry ([.ref h0, .long n0]) (n := 3) (Nat.le_of_ble_eq_true rfl)
  rw [lg_entry_eq]
  generalize (lg_sl ([.ref h0, .long n0]) ++ List.replicate (3 - (lg_sl ([.ref h0, .long n0])).length) Slot.unset).toArray = ls at hl ⊢
  have hl : lv_has ls 3 [(0, .ref h0), (1, .long n0)] := hl
  refine lv_aload_n hx hb dX11_seed_0 rfl (lv_at hl 0 rfl) ?_
  refine z_get (T := TX11) (N := 6) (ci := 11) hx hb hts (zi_11 _) hown hK hP 0 rfl rfl 2 (by decide) (hts _ (zm_175 _)) rfl h0_2 dX11_seed_1 ?_
  refine z_getN (T := TX0) (N := 18) (ci := 0) hx hb hts (zi_0 _) hown hK hP 1 rfl rfl 12 (by decide) (hZ.2.1 _ zn_30) rfl h1_12 dX11_seed_4 ?_
  refine lv_if_eq (tgt := 13) hx hb dX11_seed_7 (by decide) (fun _ => ?_) (fun c9 => absurd (by decide) c9)
  refine lv_aload_n hx hb dX11_seed_13 rfl (lv_at hl 0 rfl) ?_
  refine z_get (T := TX11) (N := 6) (ci := 11) hx hb hts (zi_11 _) hown hK hP 0 rfl rfl 2 (by decide) (hts _ (zm_175 _)) rfl h0_2 dX11_seed_14 ?_
  refine lv_lload_n hx hb dX11_seed_17 rfl (lv_at hl 1 rfl) ?_
  refine z_putN (T := TX0) (N := 18) (ci := 0) hx hb hts (zi_0 _) hown hK hP hD hS 1 rfl rfl 16 (by decide) (hZ.2.1 _ zn_55) rfl rfl rfl rfl dX11_seed_18 (fun H locs f_1 ek_2 ok_3 hP hD hS => ?_)
  have hP : va_P D vwCl [(h0, .inr (11, zf 6 f0)), (ho, .inr (0, zf 18 f_1))] H := hP
  have hD : va_D A [(h0, .inr (11, zf 6 f0)), (ho, .inr (0, zf 18 f_1))] := hD
  refine lv_iconst (v := 1) hx hb dX11_seed_21 (by decide) ?_
  refine W.widen (k := 0) (n := 0) (Nat.le_of_ble_eq_true rfl) (Nat.le_of_ble_eq_true rfl) ?_
  exact W.iret (v := 1) hx hb hr (fun t ht hW => ⟨⟨_, (), rfl, rfl, trivial⟩, hS.F ht⟩) hS.2.2 dX11_seed_22

set_option maxHeartbeats 8000000 in
set_option maxRecDepth 100000 in
/--  -/
theorem c_turns (l : Launch) (D : va_G) (x : Nat → ClassId) (n0 : Int32) (h0 : Nat) (f0 : Nat → Value) (ho : Nat) (fh : Nat → Value) (ma : Nat) (fm : Nat → Value) (sz : Nat) (h0_2 : f0 2 = .ref ho) (h0_3 : f0 3 = .ref ma) (h1_12 : fh 12 = .int 0) (h2_4 : fm 4 = .int 0) : Met l yX11_turns (.code yX11_turns cX11_turns 15 (some .int) :: zW) ({ frames := 2, cells := (0), slots := (0), locals := 47 }) (va_Pc [.ref h0, .int n0] (fun U => U.heap.size = sz ∧ va_P D vwCl [(h0, .inr (11, zf 6 f0)), (ho, .inr (0, zf 18 fh)), (ma, .inr (2, zf 19 fm))] U.heap ∧ zK x D U ∧ va_D (fun _ => True) [(h0, .inr (11, zf 6 f0)), (ho, .inr (0, zf 18 fh)), (ma, .inr (2, zf 19 fm))])) (va_Qi (fun (r : Int32) (u : Unit) => r = (zTurns n0)) (fun u t => True) (va_A [(h0, .inr (11, zf 6 f0)), (ho, .inr (0, zf 18 fh)), (ma, .inr (2, zf 19 fm))] sz)) (0) (0) (va_A [(h0, .inr (11, zf 6 f0)), (ho, .inr (0, zf 18 fh)), (ma, .inr (2, zf 19 fm))] sz) := by
  refine Met.ofW (cc := cX11_turns) (maxL := 15) (ret := (some .int)) (by decide) rfl ?_
  intro p e s m args below meth c s₁ B hml hv
  obtain ⟨rfl, hsz, hP, hZ, hD0⟩ := hv
  have hK := hZ.1
  have hx := B.exec
  have hb := B.bytes
  have hr := B.returns
  have hts := atoms_spec (ws := .code yX11_turns cX11_turns 15 (some .int) :: zW) B.pre
  have hown : s.vm.findClass RX11 = some m.cls := findClass_of_methodNamed B.named
  have hlocks := B.notSynchronized
  subst hsz
  have hD := hD0.self (sz := s.heap.size)
  generalize hAe : va_A [(h0, .inr (11, zf 6 f0)), (ho, .inr (0, zf 18 fh)), (ma, .inr (2, zf 19 fm))] s.heap.size = A at hD ⊢
  have hA : ∀ q : Nat, s.heap.size ≤ q → A q := fun q h => by rw [← hAe]; exact Or.inr h
  have hS : va_S A s.heap s.heap [] := va_S.rf
  have hP : va_P D vwCl [(h0, .inr (11, zf 6 f0)), (ho, .inr (0, zf 18 fh)), (ma, .inr (2, zf 19 fm))] s.heap := hP
  have hl := lv_entry ([.ref h0, .int n0]) (n := 15) (Nat.le_of_ble_eq_true rfl)
  rw [lg_entry_eq]
  generalize (lg_sl ([.ref h0, .int n0]) ++ List.replicate (15 - (lg_sl ([.ref h0, .int n0])).length) Slot.unset).toArray = ls at hl ⊢
  have hl : lv_has ls 15 [(0, .ref h0), (1, .int n0)] := hl
  refine lv_aload_n hx hb dX11_turns_0 rfl (lv_at hl 0 rfl) ?_
  refine z_get (T := TX11) (N := 6) (ci := 11) hx hb hts (zi_11 _) hown hK hP 0 rfl rfl 2 (by decide) (hts _ (zm_175 _)) rfl h0_2 dX11_turns_1 ?_
  refine z_getN (T := TX0) (N := 18) (ci := 0) hx hb hts (zi_0 _) hown hK hP 1 rfl rfl 12 (by decide) (hZ.2.1 _ zn_30) rfl h1_12 dX11_turns_4 ?_
  refine lv_if_eq (tgt := 13) hx hb dX11_turns_7 (by decide) (fun _ => ?_) (fun c9 => absurd (by decide) c9)
  refine lv_iload_n hx hb dX11_turns_13 rfl (lv_at hl 1 rfl) ?_
  refine lv_iconst (v := 1) hx hb dX11_turns_14 (by decide) ?_
  refine lv_icmp_lt (tgt := 25) hx hb dX11_turns_15 (by decide) (fun c_1 => ?_) (fun c_1 => ?_)
  · skip
    refine lv_iconst (v := (-1)) hx hb dX11_turns_25 (by decide) ?_
    refine W.widen (k := 0) (n := 0) (Nat.le_of_ble_eq_true rfl) (Nat.le_of_ble_eq_true rfl) ?_
    exact W.iret (v := (-1)) hx hb hr (fun t ht hW => ⟨⟨_, (), rfl, by simp [zTurns, *], trivial⟩, hS.F ht⟩) hS.2.2 dX11_turns_26
  · skip
    refine lv_iload_n hx hb dX11_turns_18 rfl (lv_at hl 1 rfl) ?_
    refine lv_sipush (v := 400) hx hb dX11_turns_19 (by decide) ?_
    refine lv_icmp_le (tgt := 27) hx hb dX11_turns_22 (by decide) (fun c_2 => ?_) (fun c_2 => ?_)
    · skip
      refine lv_iconst (v := 0) hx hb dX11_turns_27 (by decide) ?_
      refine lv_istore_n (lv' := [(2, .int 0), (0, .ref h0), (1, .int n0)]) hx hb dX11_turns_28 rfl hl (by decide) rfl (fun ls hl => ?_)
      refine lv_iconst (v := 0) hx hb dX11_turns_29 (by decide) ?_
      refine lv_istore_n (lv' := [(3, .int 0), (2, .int 0), (0, .ref h0), (1, .int n0)]) hx hb dX11_turns_30 rfl hl (by decide) rfl (fun ls hl => ?_)
      refine lv_iload_n hx hb dX11_turns_31 rfl (lv_at hl 0 rfl) ?_
      refine lv_iload_n hx hb dX11_turns_32 rfl (lv_at hl 3 rfl) ?_
      refine lv_icmp_ge (tgt := 476) hx hb dX11_turns_33 (by decide) (fun c9 => absurd c9 ((z_turn c_1))) (fun _ => ?_)
      refine lv_aload_n hx hb dX11_turns_36 rfl (lv_at hl 2 rfl) ?_
      refine z_get (T := TX11) (N := 6) (ci := 11) hx hb hts (zi_11 _) hown hK hP 0 rfl rfl 3 (by decide) (hts _ (zm_177 _)) rfl h0_3 dX11_turns_37 ?_
      have hPc := hP.sub (ws' := [(ma, .inr (2, zf 19 fm))]) [2] rfl
      have hDc := hD.sub (ws' := [(ma, .inr (2, zf 19 fm))]) [2] (by decide) rfl
      have hFc := va_free (wc := [(ma, .inr (2, zf 19 fm))]) hD hS hA [2] rfl
      have h_4 : 0 + 0 ≤ 0 ∧ 0 + 0 ≤ 0 := by omega
      refine va_calli (va_runVN (As := []) (rest := []) ⟨hx, hb, hml, hown, hts⟩ (c_choose0 l D x ma fm s.heap.size h2_4) ⟨va_cnB 0 hts (zgood (zm_297 _) rfl) rfl rfl rfl (hZ.2.1 _ zn_56) (hts _ (zm_146 _)) ⟨by decide, by decide, by decide +kernel⟩ ⟨Nat.le_of_ble_eq_true rfl, Nat.le_of_ble_eq_true rfl⟩, hts _ (zm_298 _), hts _ (zm_299 _)⟩ ⟨fun a U g mk q => by obtain ⟨q0, q1, qP, qK, qD⟩ := q; exact ⟨q0, q1, qP, ZK.calling (u := U) zN_ok rfl qK, qD⟩, va_recv hK hPc (ci := 2) (q0 := 0) rfl rfl, fun U hU hW => ⟨rfl, by rw [hU], by rw [hU]; exact hPc, ZK.warm zN_ok hW hZ, hDc.weaken (fun _ _ _ _ => trivial)⟩⟩ rfl rfl hl.1 rfl (lv_room (Nat.le_of_ble_eq_true rfl)) dX11_turns_40 h_4) hS (fun q _ h => hFc q h) hFc (fun r_3 u t H1 locs ht hvm hw_3 hB hz1 hk1 hS => ?_)
      obtain ⟨hP1, hD1⟩ := hB
      rw [ht] at hP1
      try dsimp only at hw_3
      obtain ⟨hP, hD⟩ := va_join (wr := [(h0, .inr (11, zf 6 f0)), (ho, .inr (0, zf 18 fh))]) (w1 := [(ma, .inr (2, zf 19 fm))]) hP hD [2] [0, 1] rfl rfl (by decide) (by decide) hk1 hFc hP1 hD1
      generalize H1 = H at hP hS ⊢
      have hP : va_P D vwCl [(h0, .inr (11, zf 6 f0)), (ho, .inr (0, zf 18 fh)), (ma, .inr (2, zf 19 fm))] H := hP
      have hD : va_D A [(h0, .inr (11, zf 6 f0)), (ho, .inr (0, zf 18 fh)), (ma, .inr (2, zf 19 fm))] := hD
      refine W.widen (k := 0) (n := 0) (by omega) (by omega) ?_
      obtain rfl : r_3 = (-1) := hw_3
      refine lv_istore (lv' := [(4, .int (-1)), (3, .int 0), (2, .int 0), (0, .ref h0), (1, .int n0)]) hx hb dX11_turns_43 hl (by decide) rfl (fun ls hl => ?_)
      refine lv_iload hx hb dX11_turns_45 (lv_at hl 0 rfl) ?_
      refine lv_iconst (v := (-1)) hx hb dX11_turns_47 (by decide) ?_
      refine lv_icmp_ne (tgt := 54) hx hb dX11_turns_48 (by decide) (fun c9 => absurd (by decide) c9) (fun _ => ?_)
      refine lv_goto (tgt := 476) hx hb dX11_turns_51 (by decide) ?_
      refine lv_iload_n hx hb dX11_turns_476 rfl (lv_at hl 2 rfl) ?_
      refine W.widen (k := 0) (n := 0) (Nat.le_of_ble_eq_true rfl) (Nat.le_of_ble_eq_true rfl) ?_
      exact W.iret (v := 0) hx hb hr (fun t ht hW => ⟨⟨_, (), rfl, by simp [zTurns, *], trivial⟩, hS.F ht⟩) hS.2.2 dX11_turns_477
    · skip
      refine lv_iconst (v := (-1)) hx hb dX11_turns_25 (by decide) ?_
      refine W.widen (k := 0) (n := 0) (Nat.le_of_ble_eq_true rfl) (Nat.le_of_ble_eq_true rfl) ?_
      exact W.iret (v := (-1)) hx hb hr (fun t ht hW => ⟨⟨_, (), rfl, by simp [zTurns, *], trivial⟩, hS.F ht⟩) hS.2.2 dX11_turns_26

set_option maxHeartbeats 8000000 in
set_option maxRecDepth 100000 in
/--  -/
theorem c_halt (l : Launch) (D : va_G) (x : Nat → ClassId) (n0 : Int32) (h0 : Nat) (f0 : Nat → Value) (ho : Nat) (fh : Nat → Value) (ma : Nat) (fm : Nat → Value) (sz : Nat) (h0_2 : f0 2 = .ref ho) (h0_3 : f0 3 = .ref ma) (h1_12 : fh 12 = .int 0) (h2_4 : fm 4 = .int 0) : Met l yX11_halt (.code yX11_halt cX11_halt 4 (some .int) :: zW) ({ frames := 1, cells := (0), slots := (0), locals := 21 }) (va_Pc [.ref h0, .int n0] (fun U => U.heap.size = sz ∧ va_P D vwCl [(h0, .inr (11, zf 6 f0)), (ho, .inr (0, zf 18 fh)), (ma, .inr (2, zf 19 fm))] U.heap ∧ zK x D U ∧ va_D (fun _ => True) [(h0, .inr (11, zf 6 f0)), (ho, .inr (0, zf 18 fh)), (ma, .inr (2, zf 19 fm))])) (va_Qi (fun (r : Int32) (u : Unit) => r = (-1)) (fun u t => True) (va_A [(h0, .inr (11, zf 6 f0)), (ho, .inr (0, zf 18 fh)), (ma, .inr (2, zf 19 fm))] sz)) (0) (0) (va_A [(h0, .inr (11, zf 6 f0)), (ho, .inr (0, zf 18 fh)), (ma, .inr (2, zf 19 fm))] sz) := by
  refine Met.ofW (cc := cX11_halt) (maxL := 4) (ret := (some .int)) (by decide) rfl ?_
  intro p e s m args below meth c s₁ B hml hv
  obtain ⟨rfl, hsz, hP, hZ, hD0⟩ := hv
  have hK := hZ.1
  have hx := B.exec
  have hb := B.bytes
  have hr := B.returns
  have hts := atoms_spec (ws := .code yX11_halt cX11_halt 4 (some .int) :: zW) B.pre
  have hown : s.vm.findClass RX11 = some m.cls := findClass_of_methodNamed B.named
  have hlocks := B.notSynchronized
  subst hsz
  have hD := hD0.self (sz := s.heap.size)
  generalize hAe : va_A [(h0, .inr (11, zf 6 f0)), (ho, .inr (0, zf 18 fh)), (ma, .inr (2, zf 19 fm))] s.heap.size = A at hD ⊢
  have hA : ∀ q : Nat, s.heap.size ≤ q → A q := fun q h => by rw [← hAe]; exact Or.inr h
  have hS : va_S A s.heap s.heap [] := va_S.rf
  have hP : va_P D vwCl [(h0, .inr (11, zf 6 f0)), (ho, .inr (0, zf 18 fh)), (ma, .inr (2, zf 19 fm))] s.heap := hP
  have hl := lv_entry ([.ref h0, .int n0]) (n := 4) (Nat.le_of_ble_eq_true rfl)
  rw [lg_entry_eq]
  generalize (lg_sl ([.ref h0, .int n0]) ++ List.replicate (4 - (lg_sl ([.ref h0, .int n0])).length) Slot.unset).toArray = ls at hl ⊢
  have hl : lv_has ls 4 [(0, .ref h0), (1, .int n0)] := hl
  refine lv_aload_n hx hb dX11_halt_0 rfl (lv_at hl 0 rfl) ?_
  refine z_get (T := TX11) (N := 6) (ci := 11) hx hb hts (zi_11 _) hown hK hP 0 rfl rfl 2 (by decide) (hts _ (zm_175 _)) rfl h0_2 dX11_halt_1 ?_
  refine z_getN (T := TX0) (N := 18) (ci := 0) hx hb hts (zi_0 _) hown hK hP 1 rfl rfl 12 (by decide) (hZ.2.1 _ zn_30) rfl h1_12 dX11_halt_4 ?_
  refine lv_if_eq (tgt := 13) hx hb dX11_halt_7 (by decide) (fun _ => ?_) (fun c9 => absurd (by decide) c9)
  refine lv_aload_n hx hb dX11_halt_13 rfl (lv_at hl 0 rfl) ?_
  refine z_get (T := TX11) (N := 6) (ci := 11) hx hb hts (zi_11 _) hown hK hP 0 rfl rfl 3 (by decide) (hts _ (zm_177 _)) rfl h0_3 dX11_halt_14 ?_
  refine lv_iload_n hx hb dX11_halt_17 rfl (lv_at hl 1 rfl) ?_
  have hPc := hP.sub (ws' := [(ma, .inr (2, zf 19 fm))]) [2] rfl
  have hDc := hD.sub (ws' := [(ma, .inr (2, zf 19 fm))]) [2] (by decide) rfl
  have hFc := va_free (wc := [(ma, .inr (2, zf 19 fm))]) hD hS hA [2] rfl
  have h_2 : 0 + 0 ≤ 0 ∧ 0 + 0 ≤ 0 := by omega
  refine va_callq (va_runVN (As := [.int n0]) (rest := []) ⟨hx, hb, hml, hown, hts⟩ (c_proc0 l D x n0 ma fm s.heap.size h2_4) ⟨va_cnB 1 hts (zgood (zm_285 _) rfl) rfl rfl rfl (hZ.2.1 _ zn_70) (hts _ (zm_146 _)) ⟨by decide, by decide, by decide +kernel⟩ ⟨Nat.le_of_ble_eq_true rfl, Nat.le_of_ble_eq_true rfl⟩, hts _ (zm_286 _), hts _ (zm_287 _)⟩ ⟨fun a U g mk q => by obtain ⟨q0, q1, qP, qK, qD⟩ := q; exact ⟨q0, q1, qP, ZK.calling (u := U) zN_ok rfl qK, qD⟩, va_recv hK hPc (ci := 2) (q0 := 0) rfl rfl, fun U hU hW => ⟨rfl, by rw [hU], by rw [hU]; exact hPc, ZK.warm zN_ok hW hZ, hDc.weaken (fun _ _ _ _ => trivial)⟩⟩ rfl rfl hl.1 rfl (lv_room (Nat.le_of_ble_eq_true rfl)) dX11_halt_18 h_2) hS (fun q _ h => hFc q h) hFc (fun r_1 u t H1 locs ht hvm hw_1 hB hz1 hk1 hS => ?_)
  obtain ⟨hP1, hD1⟩ := hB
  rw [ht] at hP1
  try dsimp only at hw_1
  obtain ⟨hP, hD⟩ := va_join (wr := [(h0, .inr (11, zf 6 f0)), (ho, .inr (0, zf 18 fh))]) (w1 := [(ma, .inr (2, zf 19 fm))]) hP hD [2] [0, 1] rfl rfl (by decide) (by decide) hk1 hFc hP1 hD1
  generalize H1 = H at hP hS ⊢
  have hP : va_P D vwCl [(h0, .inr (11, zf 6 f0)), (ho, .inr (0, zf 18 fh)), (ma, .inr (2, zf 19 fm))] H := hP
  have hD : va_D A [(h0, .inr (11, zf 6 f0)), (ho, .inr (0, zf 18 fh)), (ma, .inr (2, zf 19 fm))] := hD
  refine W.widen (k := 0) (n := 0) (by omega) (by omega) ?_
  obtain rfl : r_1 = none := hw_1
  refine lv_astore_nN (lv' := [(2, .null), (0, .ref h0), (1, .int n0)]) hx hb dX11_halt_21 rfl hl (by decide) rfl (fun ls hl => ?_)
  refine lv_aload_nN hx hb dX11_halt_22 rfl (lv_at hl 0 rfl) ?_
  refine lv_ifnonnullN hx hb dX11_halt_23 ?_
  refine lv_iconst (v := (-1)) hx hb dX11_halt_26 (by decide) ?_
  refine W.widen (k := 0) (n := 0) (Nat.le_of_ble_eq_true rfl) (Nat.le_of_ble_eq_true rfl) ?_
  exact W.iret (v := (-1)) hx hb hr (fun t ht hW => ⟨⟨_, (), rfl, rfl, trivial⟩, hS.F ht⟩) hS.2.2 dX11_halt_27

set_option maxHeartbeats 8000000 in
set_option maxRecDepth 100000 in
/--  -/
theorem c_state (l : Launch) (D : va_G) (x : Nat → ClassId) (n0 : Int32) (n1 : Int32) (h0 : Nat) (f0 : Nat → Value) (ho : Nat) (fh : Nat → Value) (ma : Nat) (fm : Nat → Value) (sz : Nat) (h0_2 : f0 2 = .ref ho) (h0_3 : f0 3 = .ref ma) (h1_12 : fh 12 = .int 0) (h2_4 : fm 4 = .int 0) : Met l yX11_state (.code yX11_state cX11_state 5 (some .int) :: zW) ({ frames := 1, cells := (0), slots := (0), locals := 21 }) (va_Pc [.ref h0, .int n0, .int n1] (fun U => U.heap.size = sz ∧ va_P D vwCl [(h0, .inr (11, zf 6 f0)), (ho, .inr (0, zf 18 fh)), (ma, .inr (2, zf 19 fm))] U.heap ∧ zK x D U ∧ va_D (fun _ => True) [(h0, .inr (11, zf 6 f0)), (ho, .inr (0, zf 18 fh)), (ma, .inr (2, zf 19 fm))])) (va_Qi (fun (r : Int32) (u : Unit) => r = (-1)) (fun u t => True) (va_A [(h0, .inr (11, zf 6 f0)), (ho, .inr (0, zf 18 fh)), (ma, .inr (2, zf 19 fm))] sz)) (0) (0) (va_A [(h0, .inr (11, zf 6 f0)), (ho, .inr (0, zf 18 fh)), (ma, .inr (2, zf 19 fm))] sz) := by
  refine Met.ofW (cc := cX11_state) (maxL := 5) (ret := (some .int)) (by decide) rfl ?_
  intro p e s m args below meth c s₁ B hml hv
  obtain ⟨rfl, hsz, hP, hZ, hD0⟩ := hv
  have hK := hZ.1
  have hx := B.exec
  have hb := B.bytes
  have hr := B.returns
  have hts := atoms_spec (ws := .code yX11_state cX11_state 5 (some .int) :: zW) B.pre
  have hown : s.vm.findClass RX11 = some m.cls := findClass_of_methodNamed B.named
  have hlocks := B.notSynchronized
  subst hsz
  have hD := hD0.self (sz := s.heap.size)
  generalize hAe : va_A [(h0, .inr (11, zf 6 f0)), (ho, .inr (0, zf 18 fh)), (ma, .inr (2, zf 19 fm))] s.heap.size = A at hD ⊢
  have hA : ∀ q : Nat, s.heap.size ≤ q → A q := fun q h => by rw [← hAe]; exact Or.inr h
  have hS : va_S A s.heap s.heap [] := va_S.rf
  have hP : va_P D vwCl [(h0, .inr (11, zf 6 f0)), (ho, .inr (0, zf 18 fh)), (ma, .inr (2, zf 19 fm))] s.heap := hP
  have hl := lv_entry ([.ref h0, .int n0, .int n1]) (n := 5) (Nat.le_of_ble_eq_true rfl)
  rw [lg_entry_eq]
  generalize (lg_sl ([.ref h0, .int n0, .int n1]) ++ List.replicate (5 - (lg_sl ([.ref h0, .int n0, .int n1])).length) Slot.unset).toArray = ls at hl ⊢
  have hl : lv_has ls 5 [(0, .ref h0), (1, .int n0), (2, .int n1)] := hl
  refine lv_aload_n hx hb dX11_state_0 rfl (lv_at hl 0 rfl) ?_
  refine z_get (T := TX11) (N := 6) (ci := 11) hx hb hts (zi_11 _) hown hK hP 0 rfl rfl 2 (by decide) (hts _ (zm_175 _)) rfl h0_2 dX11_state_1 ?_
  refine z_getN (T := TX0) (N := 18) (ci := 0) hx hb hts (zi_0 _) hown hK hP 1 rfl rfl 12 (by decide) (hZ.2.1 _ zn_30) rfl h1_12 dX11_state_4 ?_
  refine lv_if_eq (tgt := 13) hx hb dX11_state_7 (by decide) (fun _ => ?_) (fun c9 => absurd (by decide) c9)
  refine lv_aload_n hx hb dX11_state_13 rfl (lv_at hl 0 rfl) ?_
  refine z_get (T := TX11) (N := 6) (ci := 11) hx hb hts (zi_11 _) hown hK hP 0 rfl rfl 3 (by decide) (hts _ (zm_177 _)) rfl h0_3 dX11_state_14 ?_
  refine lv_iload_n hx hb dX11_state_17 rfl (lv_at hl 1 rfl) ?_
  have hPc := hP.sub (ws' := [(ma, .inr (2, zf 19 fm))]) [2] rfl
  have hDc := hD.sub (ws' := [(ma, .inr (2, zf 19 fm))]) [2] (by decide) rfl
  have hFc := va_free (wc := [(ma, .inr (2, zf 19 fm))]) hD hS hA [2] rfl
  have h_2 : 0 + 0 ≤ 0 ∧ 0 + 0 ≤ 0 := by omega
  refine va_callq (va_runVN (As := [.int n0]) (rest := []) ⟨hx, hb, hml, hown, hts⟩ (c_proc0 l D x n0 ma fm s.heap.size h2_4) ⟨va_cnB 1 hts (zgood (zm_285 _) rfl) rfl rfl rfl (hZ.2.1 _ zn_70) (hts _ (zm_146 _)) ⟨by decide, by decide, by decide +kernel⟩ ⟨Nat.le_of_ble_eq_true rfl, Nat.le_of_ble_eq_true rfl⟩, hts _ (zm_286 _), hts _ (zm_287 _)⟩ ⟨fun a U g mk q => by obtain ⟨q0, q1, qP, qK, qD⟩ := q; exact ⟨q0, q1, qP, ZK.calling (u := U) zN_ok rfl qK, qD⟩, va_recv hK hPc (ci := 2) (q0 := 0) rfl rfl, fun U hU hW => ⟨rfl, by rw [hU], by rw [hU]; exact hPc, ZK.warm zN_ok hW hZ, hDc.weaken (fun _ _ _ _ => trivial)⟩⟩ rfl rfl hl.1 rfl (lv_room (Nat.le_of_ble_eq_true rfl)) dX11_state_18 h_2) hS (fun q _ h => hFc q h) hFc (fun r_1 u t H1 locs ht hvm hw_1 hB hz1 hk1 hS => ?_)
  obtain ⟨hP1, hD1⟩ := hB
  rw [ht] at hP1
  try dsimp only at hw_1
  obtain ⟨hP, hD⟩ := va_join (wr := [(h0, .inr (11, zf 6 f0)), (ho, .inr (0, zf 18 fh))]) (w1 := [(ma, .inr (2, zf 19 fm))]) hP hD [2] [0, 1] rfl rfl (by decide) (by decide) hk1 hFc hP1 hD1
  generalize H1 = H at hP hS ⊢
  have hP : va_P D vwCl [(h0, .inr (11, zf 6 f0)), (ho, .inr (0, zf 18 fh)), (ma, .inr (2, zf 19 fm))] H := hP
  have hD : va_D A [(h0, .inr (11, zf 6 f0)), (ho, .inr (0, zf 18 fh)), (ma, .inr (2, zf 19 fm))] := hD
  refine W.widen (k := 0) (n := 0) (by omega) (by omega) ?_
  obtain rfl : r_1 = none := hw_1
  refine lv_astore_nN (lv' := [(3, .null), (0, .ref h0), (1, .int n0), (2, .int n1)]) hx hb dX11_state_21 rfl hl (by decide) rfl (fun ls hl => ?_)
  refine lv_aload_nN hx hb dX11_state_22 rfl (lv_at hl 0 rfl) ?_
  refine lv_ifnonnullN hx hb dX11_state_23 ?_
  refine lv_iconst (v := (-1)) hx hb dX11_state_26 (by decide) ?_
  refine W.widen (k := 0) (n := 0) (Nat.le_of_ble_eq_true rfl) (Nat.le_of_ble_eq_true rfl) ?_
  exact W.iret (v := (-1)) hx hb hr (fun t ht hW => ⟨⟨_, (), rfl, rfl, trivial⟩, hS.F ht⟩) hS.2.2 dX11_state_27

set_option maxHeartbeats 8000000 in
set_option maxRecDepth 100000 in
/--  -/
theorem c_written (l : Launch) (D : va_G) (x : Nat → ClassId) (n0 : Int32) (n1 : Int32) (h0 : Nat) (f0 : Nat → Value) (ho : Nat) (fh : Nat → Value) (ma : Nat) (fm : Nat → Value) (sz : Nat) (h0_2 : f0 2 = .ref ho) (h0_3 : f0 3 = .ref ma) (h1_12 : fh 12 = .int 0) (h2_4 : fm 4 = .int 0) : Met l yX11_written (.code yX11_written cX11_written 4 (some .int) :: zW) ({ frames := 1, cells := (0), slots := (0), locals := 21 }) (va_Pc [.ref h0, .int n0, .int n1] (fun U => U.heap.size = sz ∧ va_P D vwCl [(h0, .inr (11, zf 6 f0)), (ho, .inr (0, zf 18 fh)), (ma, .inr (2, zf 19 fm))] U.heap ∧ zK x D U ∧ va_D (fun _ => True) [(h0, .inr (11, zf 6 f0)), (ho, .inr (0, zf 18 fh)), (ma, .inr (2, zf 19 fm))])) (va_Qi (fun (r : Int32) (u : Unit) => r = (-1)) (fun u t => True) (va_A [(h0, .inr (11, zf 6 f0)), (ho, .inr (0, zf 18 fh)), (ma, .inr (2, zf 19 fm))] sz)) (0) (0) (va_A [(h0, .inr (11, zf 6 f0)), (ho, .inr (0, zf 18 fh)), (ma, .inr (2, zf 19 fm))] sz) := by
  refine Met.ofW (cc := cX11_written) (maxL := 4) (ret := (some .int)) (by decide) rfl ?_
  intro p e s m args below meth c s₁ B hml hv
  obtain ⟨rfl, hsz, hP, hZ, hD0⟩ := hv
  have hK := hZ.1
  have hx := B.exec
  have hb := B.bytes
  have hr := B.returns
  have hts := atoms_spec (ws := .code yX11_written cX11_written 4 (some .int) :: zW) B.pre
  have hown : s.vm.findClass RX11 = some m.cls := findClass_of_methodNamed B.named
  have hlocks := B.notSynchronized
  subst hsz
  have hD := hD0.self (sz := s.heap.size)
  generalize hAe : va_A [(h0, .inr (11, zf 6 f0)), (ho, .inr (0, zf 18 fh)), (ma, .inr (2, zf 19 fm))] s.heap.size = A at hD ⊢
  have hA : ∀ q : Nat, s.heap.size ≤ q → A q := fun q h => by rw [← hAe]; exact Or.inr h
  have hS : va_S A s.heap s.heap [] := va_S.rf
  have hP : va_P D vwCl [(h0, .inr (11, zf 6 f0)), (ho, .inr (0, zf 18 fh)), (ma, .inr (2, zf 19 fm))] s.heap := hP
  have hl := lv_entry ([.ref h0, .int n0, .int n1]) (n := 4) (Nat.le_of_ble_eq_true rfl)
  rw [lg_entry_eq]
  generalize (lg_sl ([.ref h0, .int n0, .int n1]) ++ List.replicate (4 - (lg_sl ([.ref h0, .int n0, .int n1])).length) Slot.unset).toArray = ls at hl ⊢
  have hl : lv_has ls 4 [(0, .ref h0), (1, .int n0), (2, .int n1)] := hl
  refine lv_aload_n hx hb dX11_written_0 rfl (lv_at hl 0 rfl) ?_
  refine z_get (T := TX11) (N := 6) (ci := 11) hx hb hts (zi_11 _) hown hK hP 0 rfl rfl 2 (by decide) (hts _ (zm_175 _)) rfl h0_2 dX11_written_1 ?_
  refine z_getN (T := TX0) (N := 18) (ci := 0) hx hb hts (zi_0 _) hown hK hP 1 rfl rfl 12 (by decide) (hZ.2.1 _ zn_30) rfl h1_12 dX11_written_4 ?_
  refine lv_if_eq (tgt := 13) hx hb dX11_written_7 (by decide) (fun _ => ?_) (fun c9 => absurd (by decide) c9)
  refine lv_aload_n hx hb dX11_written_13 rfl (lv_at hl 0 rfl) ?_
  refine z_get (T := TX11) (N := 6) (ci := 11) hx hb hts (zi_11 _) hown hK hP 0 rfl rfl 3 (by decide) (hts _ (zm_177 _)) rfl h0_3 dX11_written_14 ?_
  refine lv_iload_n hx hb dX11_written_17 rfl (lv_at hl 1 rfl) ?_
  have hPc := hP.sub (ws' := [(ma, .inr (2, zf 19 fm))]) [2] rfl
  have hDc := hD.sub (ws' := [(ma, .inr (2, zf 19 fm))]) [2] (by decide) rfl
  have hFc := va_free (wc := [(ma, .inr (2, zf 19 fm))]) hD hS hA [2] rfl
  have h_2 : 0 + 0 ≤ 0 ∧ 0 + 0 ≤ 0 := by omega
  refine va_callq (va_runVN (As := [.int n0]) (rest := []) ⟨hx, hb, hml, hown, hts⟩ (c_proc0 l D x n0 ma fm s.heap.size h2_4) ⟨va_cnB 1 hts (zgood (zm_285 _) rfl) rfl rfl rfl (hZ.2.1 _ zn_70) (hts _ (zm_146 _)) ⟨by decide, by decide, by decide +kernel⟩ ⟨Nat.le_of_ble_eq_true rfl, Nat.le_of_ble_eq_true rfl⟩, hts _ (zm_286 _), hts _ (zm_287 _)⟩ ⟨fun a U g mk q => by obtain ⟨q0, q1, qP, qK, qD⟩ := q; exact ⟨q0, q1, qP, ZK.calling (u := U) zN_ok rfl qK, qD⟩, va_recv hK hPc (ci := 2) (q0 := 0) rfl rfl, fun U hU hW => ⟨rfl, by rw [hU], by rw [hU]; exact hPc, ZK.warm zN_ok hW hZ, hDc.weaken (fun _ _ _ _ => trivial)⟩⟩ rfl rfl hl.1 rfl (lv_room (Nat.le_of_ble_eq_true rfl)) dX11_written_18 h_2) hS (fun q _ h => hFc q h) hFc (fun r_1 u t H1 locs ht hvm hw_1 hB hz1 hk1 hS => ?_)
  obtain ⟨hP1, hD1⟩ := hB
  rw [ht] at hP1
  try dsimp only at hw_1
  obtain ⟨hP, hD⟩ := va_join (wr := [(h0, .inr (11, zf 6 f0)), (ho, .inr (0, zf 18 fh))]) (w1 := [(ma, .inr (2, zf 19 fm))]) hP hD [2] [0, 1] rfl rfl (by decide) (by decide) hk1 hFc hP1 hD1
  generalize H1 = H at hP hS ⊢
  have hP : va_P D vwCl [(h0, .inr (11, zf 6 f0)), (ho, .inr (0, zf 18 fh)), (ma, .inr (2, zf 19 fm))] H := hP
  have hD : va_D A [(h0, .inr (11, zf 6 f0)), (ho, .inr (0, zf 18 fh)), (ma, .inr (2, zf 19 fm))] := hD
  refine W.widen (k := 0) (n := 0) (by omega) (by omega) ?_
  obtain rfl : r_1 = none := hw_1
  refine lv_astore_nN (lv' := [(3, .null), (0, .ref h0), (1, .int n0), (2, .int n1)]) hx hb dX11_written_21 rfl hl (by decide) rfl (fun ls hl => ?_)
  refine lv_aload_nN hx hb dX11_written_22 rfl (lv_at hl 0 rfl) ?_
  refine lv_ifnonnullN hx hb dX11_written_23 ?_
  refine lv_iconst (v := (-1)) hx hb dX11_written_26 (by decide) ?_
  refine lv_goto (tgt := 38) hx hb dX11_written_27 (by decide) ?_
  refine W.widen (k := 0) (n := 0) (Nat.le_of_ble_eq_true rfl) (Nat.le_of_ble_eq_true rfl) ?_
  exact W.iret (v := (-1)) hx hb hr (fun t ht hW => ⟨⟨_, (), rfl, rfl, trivial⟩, hS.F ht⟩) hS.2.2 dX11_written_38

set_option maxHeartbeats 8000000 in
set_option maxRecDepth 100000 in
/--  -/
theorem c_take (l : Launch) (D : va_G) (x : Nat → ClassId) (n0 : Int32) (h0 : Nat) (f0 : Nat → Value) (ho : Nat) (fh : Nat → Value) (ma : Nat) (fm : Nat → Value) (sz : Nat) (h0_2 : f0 2 = .ref ho) (h0_3 : f0 3 = .ref ma) (h1_12 : fh 12 = .int 0) (h2_4 : fm 4 = .int 0) : Met l yX11_take (.code yX11_take cX11_take 4 (some .int) :: zW) ({ frames := 1, cells := (0), slots := (0), locals := 21 }) (va_Pc [.ref h0, .int n0] (fun U => U.heap.size = sz ∧ va_P D vwCl [(h0, .inr (11, zf 6 f0)), (ho, .inr (0, zf 18 fh)), (ma, .inr (2, zf 19 fm))] U.heap ∧ zK x D U ∧ va_D (fun _ => True) [(h0, .inr (11, zf 6 f0)), (ho, .inr (0, zf 18 fh)), (ma, .inr (2, zf 19 fm))])) (va_Qi (fun (r : Int32) (u : Unit) => r = (-1)) (fun u t => True) (va_A [(h0, .inr (11, zf 6 f0)), (ho, .inr (0, zf 18 fh)), (ma, .inr (2, zf 19 fm))] sz)) (0) (0) (va_A [(h0, .inr (11, zf 6 f0)), (ho, .inr (0, zf 18 fh)), (ma, .inr (2, zf 19 fm))] sz) := by
  refine Met.ofW (cc := cX11_take) (maxL := 4) (ret := (some .int)) (by decide) rfl ?_
  intro p e s m args below meth c s₁ B hml hv
  obtain ⟨rfl, hsz, hP, hZ, hD0⟩ := hv
  have hK := hZ.1
  have hx := B.exec
  have hb := B.bytes
  have hr := B.returns
  have hts := atoms_spec (ws := .code yX11_take cX11_take 4 (some .int) :: zW) B.pre
  have hown : s.vm.findClass RX11 = some m.cls := findClass_of_methodNamed B.named
  have hlocks := B.notSynchronized
  subst hsz
  have hD := hD0.self (sz := s.heap.size)
  generalize hAe : va_A [(h0, .inr (11, zf 6 f0)), (ho, .inr (0, zf 18 fh)), (ma, .inr (2, zf 19 fm))] s.heap.size = A at hD ⊢
  have hA : ∀ q : Nat, s.heap.size ≤ q → A q := fun q h => by rw [← hAe]; exact Or.inr h
  have hS : va_S A s.heap s.heap [] := va_S.rf
  have hP : va_P D vwCl [(h0, .inr (11, zf 6 f0)), (ho, .inr (0, zf 18 fh)), (ma, .inr (2, zf 19 fm))] s.heap := hP
  have hl := lv_entry ([.ref h0, .int n0]) (n := 4) (Nat.le_of_ble_eq_true rfl)
  rw [lg_entry_eq]
  generalize (lg_sl ([.ref h0, .int n0]) ++ List.replicate (4 - (lg_sl ([.ref h0, .int n0])).length) Slot.unset).toArray = ls at hl ⊢
  have hl : lv_has ls 4 [(0, .ref h0), (1, .int n0)] := hl
  refine lv_aload_n hx hb dX11_take_0 rfl (lv_at hl 0 rfl) ?_
  refine z_get (T := TX11) (N := 6) (ci := 11) hx hb hts (zi_11 _) hown hK hP 0 rfl rfl 2 (by decide) (hts _ (zm_175 _)) rfl h0_2 dX11_take_1 ?_
  refine z_getN (T := TX0) (N := 18) (ci := 0) hx hb hts (zi_0 _) hown hK hP 1 rfl rfl 12 (by decide) (hZ.2.1 _ zn_30) rfl h1_12 dX11_take_4 ?_
  refine lv_if_eq (tgt := 13) hx hb dX11_take_7 (by decide) (fun _ => ?_) (fun c9 => absurd (by decide) c9)
  refine lv_aload_n hx hb dX11_take_13 rfl (lv_at hl 0 rfl) ?_
  refine z_get (T := TX11) (N := 6) (ci := 11) hx hb hts (zi_11 _) hown hK hP 0 rfl rfl 3 (by decide) (hts _ (zm_177 _)) rfl h0_3 dX11_take_14 ?_
  refine lv_iload_n hx hb dX11_take_17 rfl (lv_at hl 1 rfl) ?_
  have hPc := hP.sub (ws' := [(ma, .inr (2, zf 19 fm))]) [2] rfl
  have hDc := hD.sub (ws' := [(ma, .inr (2, zf 19 fm))]) [2] (by decide) rfl
  have hFc := va_free (wc := [(ma, .inr (2, zf 19 fm))]) hD hS hA [2] rfl
  have h_2 : 0 + 0 ≤ 0 ∧ 0 + 0 ≤ 0 := by omega
  refine va_callq (va_runVN (As := [.int n0]) (rest := []) ⟨hx, hb, hml, hown, hts⟩ (c_proc0 l D x n0 ma fm s.heap.size h2_4) ⟨va_cnB 1 hts (zgood (zm_285 _) rfl) rfl rfl rfl (hZ.2.1 _ zn_70) (hts _ (zm_146 _)) ⟨by decide, by decide, by decide +kernel⟩ ⟨Nat.le_of_ble_eq_true rfl, Nat.le_of_ble_eq_true rfl⟩, hts _ (zm_286 _), hts _ (zm_287 _)⟩ ⟨fun a U g mk q => by obtain ⟨q0, q1, qP, qK, qD⟩ := q; exact ⟨q0, q1, qP, ZK.calling (u := U) zN_ok rfl qK, qD⟩, va_recv hK hPc (ci := 2) (q0 := 0) rfl rfl, fun U hU hW => ⟨rfl, by rw [hU], by rw [hU]; exact hPc, ZK.warm zN_ok hW hZ, hDc.weaken (fun _ _ _ _ => trivial)⟩⟩ rfl rfl hl.1 rfl (lv_room (Nat.le_of_ble_eq_true rfl)) dX11_take_18 h_2) hS (fun q _ h => hFc q h) hFc (fun r_1 u t H1 locs ht hvm hw_1 hB hz1 hk1 hS => ?_)
  obtain ⟨hP1, hD1⟩ := hB
  rw [ht] at hP1
  try dsimp only at hw_1
  obtain ⟨hP, hD⟩ := va_join (wr := [(h0, .inr (11, zf 6 f0)), (ho, .inr (0, zf 18 fh))]) (w1 := [(ma, .inr (2, zf 19 fm))]) hP hD [2] [0, 1] rfl rfl (by decide) (by decide) hk1 hFc hP1 hD1
  generalize H1 = H at hP hS ⊢
  have hP : va_P D vwCl [(h0, .inr (11, zf 6 f0)), (ho, .inr (0, zf 18 fh)), (ma, .inr (2, zf 19 fm))] H := hP
  have hD : va_D A [(h0, .inr (11, zf 6 f0)), (ho, .inr (0, zf 18 fh)), (ma, .inr (2, zf 19 fm))] := hD
  refine W.widen (k := 0) (n := 0) (by omega) (by omega) ?_
  obtain rfl : r_1 = none := hw_1
  refine lv_astore_nN (lv' := [(2, .null), (0, .ref h0), (1, .int n0)]) hx hb dX11_take_21 rfl hl (by decide) rfl (fun ls hl => ?_)
  refine lv_aload_nN hx hb dX11_take_22 rfl (lv_at hl 0 rfl) ?_
  refine lv_ifnonnullN hx hb dX11_take_23 ?_
  refine lv_iconst (v := (-1)) hx hb dX11_take_26 (by decide) ?_
  refine W.widen (k := 0) (n := 0) (Nat.le_of_ble_eq_true rfl) (Nat.le_of_ble_eq_true rfl) ?_
  exact W.iret (v := (-1)) hx hb hr (fun t ht hW => ⟨⟨_, (), rfl, rfl, trivial⟩, hS.F ht⟩) hS.2.2 dX11_take_27

set_option maxHeartbeats 8000000 in
set_option maxRecDepth 100000 in
/--  -/
theorem c_code (l : Launch) (D : va_G) (x : Nat → ClassId) (n0 : Int32) (h0 : Nat) (f0 : Nat → Value) (ho : Nat) (fh : Nat → Value) (ma : Nat) (fm : Nat → Value) (sz : Nat) (h0_2 : f0 2 = .ref ho) (h0_3 : f0 3 = .ref ma) (h1_12 : fh 12 = .int 0) (h2_4 : fm 4 = .int 0) : Met l yX11_code (.code yX11_code cX11_code 3 (some .int) :: zW) ({ frames := 1, cells := (0), slots := (0), locals := 21 }) (va_Pc [.ref h0, .int n0] (fun U => U.heap.size = sz ∧ va_P D vwCl [(h0, .inr (11, zf 6 f0)), (ho, .inr (0, zf 18 fh)), (ma, .inr (2, zf 19 fm))] U.heap ∧ zK x D U ∧ va_D (fun _ => True) [(h0, .inr (11, zf 6 f0)), (ho, .inr (0, zf 18 fh)), (ma, .inr (2, zf 19 fm))])) (va_Qi (fun (r : Int32) (u : Unit) => r = (-1)) (fun u t => True) (va_A [(h0, .inr (11, zf 6 f0)), (ho, .inr (0, zf 18 fh)), (ma, .inr (2, zf 19 fm))] sz)) (0) (0) (va_A [(h0, .inr (11, zf 6 f0)), (ho, .inr (0, zf 18 fh)), (ma, .inr (2, zf 19 fm))] sz) := by
  refine Met.ofW (cc := cX11_code) (maxL := 3) (ret := (some .int)) (by decide) rfl ?_
  intro p e s m args below meth c s₁ B hml hv
  obtain ⟨rfl, hsz, hP, hZ, hD0⟩ := hv
  have hK := hZ.1
  have hx := B.exec
  have hb := B.bytes
  have hr := B.returns
  have hts := atoms_spec (ws := .code yX11_code cX11_code 3 (some .int) :: zW) B.pre
  have hown : s.vm.findClass RX11 = some m.cls := findClass_of_methodNamed B.named
  have hlocks := B.notSynchronized
  subst hsz
  have hD := hD0.self (sz := s.heap.size)
  generalize hAe : va_A [(h0, .inr (11, zf 6 f0)), (ho, .inr (0, zf 18 fh)), (ma, .inr (2, zf 19 fm))] s.heap.size = A at hD ⊢
  have hA : ∀ q : Nat, s.heap.size ≤ q → A q := fun q h => by rw [← hAe]; exact Or.inr h
  have hS : va_S A s.heap s.heap [] := va_S.rf
  have hP : va_P D vwCl [(h0, .inr (11, zf 6 f0)), (ho, .inr (0, zf 18 fh)), (ma, .inr (2, zf 19 fm))] s.heap := hP
  have hl := lv_entry ([.ref h0, .int n0]) (n := 3) (Nat.le_of_ble_eq_true rfl)
  rw [lg_entry_eq]
  generalize (lg_sl ([.ref h0, .int n0]) ++ List.replicate (3 - (lg_sl ([.ref h0, .int n0])).length) Slot.unset).toArray = ls at hl ⊢
  have hl : lv_has ls 3 [(0, .ref h0), (1, .int n0)] := hl
  refine lv_aload_n hx hb dX11_code_0 rfl (lv_at hl 0 rfl) ?_
  refine z_get (T := TX11) (N := 6) (ci := 11) hx hb hts (zi_11 _) hown hK hP 0 rfl rfl 2 (by decide) (hts _ (zm_175 _)) rfl h0_2 dX11_code_1 ?_
  refine z_getN (T := TX0) (N := 18) (ci := 0) hx hb hts (zi_0 _) hown hK hP 1 rfl rfl 12 (by decide) (hZ.2.1 _ zn_30) rfl h1_12 dX11_code_4 ?_
  refine lv_if_eq (tgt := 13) hx hb dX11_code_7 (by decide) (fun _ => ?_) (fun c9 => absurd (by decide) c9)
  refine lv_aload_n hx hb dX11_code_13 rfl (lv_at hl 0 rfl) ?_
  refine z_get (T := TX11) (N := 6) (ci := 11) hx hb hts (zi_11 _) hown hK hP 0 rfl rfl 3 (by decide) (hts _ (zm_177 _)) rfl h0_3 dX11_code_14 ?_
  refine lv_iload_n hx hb dX11_code_17 rfl (lv_at hl 1 rfl) ?_
  have hPc := hP.sub (ws' := [(ma, .inr (2, zf 19 fm))]) [2] rfl
  have hDc := hD.sub (ws' := [(ma, .inr (2, zf 19 fm))]) [2] (by decide) rfl
  have hFc := va_free (wc := [(ma, .inr (2, zf 19 fm))]) hD hS hA [2] rfl
  have h_2 : 0 + 0 ≤ 0 ∧ 0 + 0 ≤ 0 := by omega
  refine va_callq (va_runVN (As := [.int n0]) (rest := []) ⟨hx, hb, hml, hown, hts⟩ (c_proc0 l D x n0 ma fm s.heap.size h2_4) ⟨va_cnB 1 hts (zgood (zm_285 _) rfl) rfl rfl rfl (hZ.2.1 _ zn_70) (hts _ (zm_146 _)) ⟨by decide, by decide, by decide +kernel⟩ ⟨Nat.le_of_ble_eq_true rfl, Nat.le_of_ble_eq_true rfl⟩, hts _ (zm_286 _), hts _ (zm_287 _)⟩ ⟨fun a U g mk q => by obtain ⟨q0, q1, qP, qK, qD⟩ := q; exact ⟨q0, q1, qP, ZK.calling (u := U) zN_ok rfl qK, qD⟩, va_recv hK hPc (ci := 2) (q0 := 0) rfl rfl, fun U hU hW => ⟨rfl, by rw [hU], by rw [hU]; exact hPc, ZK.warm zN_ok hW hZ, hDc.weaken (fun _ _ _ _ => trivial)⟩⟩ rfl rfl hl.1 rfl (lv_room (Nat.le_of_ble_eq_true rfl)) dX11_code_18 h_2) hS (fun q _ h => hFc q h) hFc (fun r_1 u t H1 locs ht hvm hw_1 hB hz1 hk1 hS => ?_)
  obtain ⟨hP1, hD1⟩ := hB
  rw [ht] at hP1
  try dsimp only at hw_1
  obtain ⟨hP, hD⟩ := va_join (wr := [(h0, .inr (11, zf 6 f0)), (ho, .inr (0, zf 18 fh))]) (w1 := [(ma, .inr (2, zf 19 fm))]) hP hD [2] [0, 1] rfl rfl (by decide) (by decide) hk1 hFc hP1 hD1
  generalize H1 = H at hP hS ⊢
  have hP : va_P D vwCl [(h0, .inr (11, zf 6 f0)), (ho, .inr (0, zf 18 fh)), (ma, .inr (2, zf 19 fm))] H := hP
  have hD : va_D A [(h0, .inr (11, zf 6 f0)), (ho, .inr (0, zf 18 fh)), (ma, .inr (2, zf 19 fm))] := hD
  refine W.widen (k := 0) (n := 0) (by omega) (by omega) ?_
  obtain rfl : r_1 = none := hw_1
  refine lv_astore_nN (lv' := [(2, .null), (0, .ref h0), (1, .int n0)]) hx hb dX11_code_21 rfl hl (by decide) rfl (fun ls hl => ?_)
  refine lv_aload_nN hx hb dX11_code_22 rfl (lv_at hl 0 rfl) ?_
  refine lv_ifnonnullN hx hb dX11_code_23 ?_
  refine lv_iconst (v := (-1)) hx hb dX11_code_26 (by decide) ?_
  refine W.widen (k := 0) (n := 0) (Nat.le_of_ble_eq_true rfl) (Nat.le_of_ble_eq_true rfl) ?_
  exact W.iret (v := (-1)) hx hb hr (fun t ht hW => ⟨⟨_, (), rfl, rfl, trivial⟩, hS.F ht⟩) hS.2.2 dX11_code_27

set_option maxHeartbeats 8000000 in
set_option maxRecDepth 100000 in
/--  -/
theorem c_level (l : Launch) (D : va_G) (x : Nat → ClassId) (n0 : Int32) (n1 : Int32) (n2 : Int32) (h0 : Nat) (f0 : Nat → Value) (ho : Nat) (fh : Nat → Value) (ma : Nat) (fm : Nat → Value) (sz : Nat) (h0_2 : f0 2 = .ref ho) (h0_3 : f0 3 = .ref ma) (h1_12 : fh 12 = .int 0) (h2_4 : fm 4 = .int 0) : Met l yX11_level (.code yX11_level cX11_level 6 (some .int) :: zW) ({ frames := 2, cells := (0), slots := (0), locals := 43 }) (va_Pc [.ref h0, .int n0, .int n1, .int n2] (fun U => U.heap.size = sz ∧ va_P D vwCl [(h0, .inr (11, zf 6 f0)), (ho, .inr (0, zf 18 fh)), (ma, .inr (2, zf 19 fm))] U.heap ∧ zK x D U ∧ va_D (fun _ => True) [(h0, .inr (11, zf 6 f0)), (ho, .inr (0, zf 18 fh)), (ma, .inr (2, zf 19 fm))])) (va_Qi (fun (r : Int32) (u : Unit) => r = (-1)) (fun u t => True) (va_A [(h0, .inr (11, zf 6 f0)), (ho, .inr (0, zf 18 fh)), (ma, .inr (2, zf 19 fm))] sz)) (0) (0) (va_A [(h0, .inr (11, zf 6 f0)), (ho, .inr (0, zf 18 fh)), (ma, .inr (2, zf 19 fm))] sz) := by
  refine Met.ofW (cc := cX11_level) (maxL := 6) (ret := (some .int)) (by decide) rfl ?_
  intro p e s m args below meth c s₁ B hml hv
  obtain ⟨rfl, hsz, hP, hZ, hD0⟩ := hv
  have hK := hZ.1
  have hx := B.exec
  have hb := B.bytes
  have hr := B.returns
  have hts := atoms_spec (ws := .code yX11_level cX11_level 6 (some .int) :: zW) B.pre
  have hown : s.vm.findClass RX11 = some m.cls := findClass_of_methodNamed B.named
  have hlocks := B.notSynchronized
  subst hsz
  have hD := hD0.self (sz := s.heap.size)
  generalize hAe : va_A [(h0, .inr (11, zf 6 f0)), (ho, .inr (0, zf 18 fh)), (ma, .inr (2, zf 19 fm))] s.heap.size = A at hD ⊢
  have hA : ∀ q : Nat, s.heap.size ≤ q → A q := fun q h => by rw [← hAe]; exact Or.inr h
  have hS : va_S A s.heap s.heap [] := va_S.rf
  have hP : va_P D vwCl [(h0, .inr (11, zf 6 f0)), (ho, .inr (0, zf 18 fh)), (ma, .inr (2, zf 19 fm))] s.heap := hP
  have hl := lv_entry ([.ref h0, .int n0, .int n1, .int n2]) (n := 6) (Nat.le_of_ble_eq_true rfl)
  rw [lg_entry_eq]
  generalize (lg_sl ([.ref h0, .int n0, .int n1, .int n2]) ++ List.replicate (6 - (lg_sl ([.ref h0, .int n0, .int n1, .int n2])).length) Slot.unset).toArray = ls at hl ⊢
  have hl : lv_has ls 6 [(0, .ref h0), (1, .int n0), (2, .int n1), (3, .int n2)] := hl
  refine lv_aload_n hx hb dX11_level_0 rfl (lv_at hl 0 rfl) ?_
  refine z_get (T := TX11) (N := 6) (ci := 11) hx hb hts (zi_11 _) hown hK hP 0 rfl rfl 2 (by decide) (hts _ (zm_175 _)) rfl h0_2 dX11_level_1 ?_
  refine z_getN (T := TX0) (N := 18) (ci := 0) hx hb hts (zi_0 _) hown hK hP 1 rfl rfl 12 (by decide) (hZ.2.1 _ zn_30) rfl h1_12 dX11_level_4 ?_
  refine lv_if_eq (tgt := 13) hx hb dX11_level_7 (by decide) (fun _ => ?_) (fun c9 => absurd (by decide) c9)
  refine lv_aload_n hx hb dX11_level_13 rfl (lv_at hl 0 rfl) ?_
  refine z_get (T := TX11) (N := 6) (ci := 11) hx hb hts (zi_11 _) hown hK hP 0 rfl rfl 3 (by decide) (hts _ (zm_177 _)) rfl h0_3 dX11_level_14 ?_
  refine lv_iload_n hx hb dX11_level_17 rfl (lv_at hl 1 rfl) ?_
  have hPc := hP.sub (ws' := [(ma, .inr (2, zf 19 fm))]) [2] rfl
  have hDc := hD.sub (ws' := [(ma, .inr (2, zf 19 fm))]) [2] (by decide) rfl
  have hFc := va_free (wc := [(ma, .inr (2, zf 19 fm))]) hD hS hA [2] rfl
  have h_2 : 0 + 0 ≤ 0 ∧ 0 + 0 ≤ 0 := by omega
  refine va_callq (va_runVN (As := [.int n0]) (rest := []) ⟨hx, hb, hml, hown, hts⟩ (c_living0 l D x n0 ma fm s.heap.size h2_4) ⟨va_cnB 1 hts (zgood (zm_289 _) rfl) rfl rfl rfl (hZ.2.1 _ zn_51) (hts _ (zm_146 _)) ⟨by decide, by decide, by decide +kernel⟩ ⟨Nat.le_of_ble_eq_true rfl, Nat.le_of_ble_eq_true rfl⟩, hts _ (zm_290 _), hts _ (zm_291 _)⟩ ⟨fun a U g mk q => by obtain ⟨q0, q1, qP, qK, qD⟩ := q; exact ⟨q0, q1, qP, ZK.calling (u := U) zN_ok rfl qK, qD⟩, va_recv hK hPc (ci := 2) (q0 := 0) rfl rfl, fun U hU hW => ⟨rfl, by rw [hU], by rw [hU]; exact hPc, ZK.warm zN_ok hW hZ, hDc.weaken (fun _ _ _ _ => trivial)⟩⟩ rfl rfl hl.1 rfl (lv_room (Nat.le_of_ble_eq_true rfl)) dX11_level_18 h_2) hS (fun q _ h => hFc q h) hFc (fun r_1 u t H1 locs ht hvm hw_1 hB hz1 hk1 hS => ?_)
  obtain ⟨hP1, hD1⟩ := hB
  rw [ht] at hP1
  try dsimp only at hw_1
  obtain ⟨hP, hD⟩ := va_join (wr := [(h0, .inr (11, zf 6 f0)), (ho, .inr (0, zf 18 fh))]) (w1 := [(ma, .inr (2, zf 19 fm))]) hP hD [2] [0, 1] rfl rfl (by decide) (by decide) hk1 hFc hP1 hD1
  generalize H1 = H at hP hS ⊢
  have hP : va_P D vwCl [(h0, .inr (11, zf 6 f0)), (ho, .inr (0, zf 18 fh)), (ma, .inr (2, zf 19 fm))] H := hP
  have hD : va_D A [(h0, .inr (11, zf 6 f0)), (ho, .inr (0, zf 18 fh)), (ma, .inr (2, zf 19 fm))] := hD
  refine W.widen (k := 0) (n := 0) (by omega) (by omega) ?_
  obtain rfl : r_1 = none := hw_1
  refine lv_astoreN (lv' := [(4, .null), (0, .ref h0), (1, .int n0), (2, .int n1), (3, .int n2)]) hx hb dX11_level_21 hl (by decide) rfl (fun ls hl => ?_)
  refine lv_aloadN hx hb dX11_level_23 (lv_at hl 0 rfl) ?_
  refine lv_ifnullN (tgt := 36) hx hb dX11_level_25 (by decide) ?_
  refine lv_null hx hb dX11_level_36 ?_
  refine lv_goto (tgt := 49) hx hb dX11_level_37 (by decide) ?_
  refine lv_astoreN (lv' := [(5, .null), (4, .null), (0, .ref h0), (1, .int n0), (2, .int n1), (3, .int n2)]) hx hb dX11_level_49 hl (by decide) rfl (fun ls hl => ?_)
  refine lv_aloadN hx hb dX11_level_51 (lv_at hl 0 rfl) ?_
  refine lv_ifnullN (tgt := 73) hx hb dX11_level_53 (by decide) ?_
  refine lv_iconst (v := (-1)) hx hb dX11_level_73 (by decide) ?_
  refine W.widen (k := 0) (n := 0) (Nat.le_of_ble_eq_true rfl) (Nat.le_of_ble_eq_true rfl) ?_
  exact W.iret (v := (-1)) hx hb hr (fun t ht hW => ⟨⟨_, (), rfl, rfl, trivial⟩, hS.F ht⟩) hS.2.2 dX11_level_74

set_option maxHeartbeats 8000000 in
set_option maxRecDepth 100000 in
/--  -/
theorem c_tell (l : Launch) (D : va_G) (x : Nat → ClassId) (n0 : Int32) (h0 : Nat) (f0 : Nat → Value) (ho : Nat) (fh : Nat → Value) (ma : Nat) (fm : Nat → Value) (ta : Nat) (ft : Nat → Value) (b0 : Nat) (sz : Nat) (h0_2 : f0 2 = .ref ho) (h0_3 : f0 3 = .ref ma) (h0_0 : f0 0 = .ref ta) (h1_12 : fh 12 = .int 0) (h2_4 : fm 4 = .int 0) (h3_0 : ft 0 = .ref b0) (h3_1 : ft 1 = .int 0) : Met l yX11_tell (.code yX11_tell cX11_tell 4 (some .int) :: zW) ({ frames := 2, cells := (0), slots := (0), locals := 43 }) (va_Pc [.ref h0, .int n0] (fun U => U.heap.size = sz ∧ va_P D vwCl [(h0, .inr (11, zf 6 f0)), (ho, .inr (0, zf 18 fh)), (ma, .inr (2, zf 19 fm)), (ta, .inr (6, zf 3 ft))] U.heap ∧ zK x D U ∧ va_D (fun _ => True) [(h0, .inr (11, zf 6 f0)), (ho, .inr (0, zf 18 fh)), (ma, .inr (2, zf 19 fm)), (ta, .inr (6, zf 3 ft))])) (va_Qi (fun (r : Int32) (u : Unit) => r = (-1)) (fun u t => True) (va_A [(h0, .inr (11, zf 6 f0)), (ho, .inr (0, zf 18 fh)), (ma, .inr (2, zf 19 fm)), (ta, .inr (6, zf 3 ft))] sz)) (0) (0) (va_A [(h0, .inr (11, zf 6 f0)), (ho, .inr (0, zf 18 fh)), (ma, .inr (2, zf 19 fm)), (ta, .inr (6, zf 3 ft))] sz) := by
  refine Met.ofW (cc := cX11_tell) (maxL := 4) (ret := (some .int)) (by decide) rfl ?_
  intro p e s m args below meth c s₁ B hml hv
  obtain ⟨rfl, hsz, hP, hZ, hD0⟩ := hv
  have hK := hZ.1
  have hx := B.exec
  have hb := B.bytes
  have hr := B.returns
  have hts := atoms_spec (ws := .code yX11_tell cX11_tell 4 (some .int) :: zW) B.pre
  have hown : s.vm.findClass RX11 = some m.cls := findClass_of_methodNamed B.named
  have hlocks := B.notSynchronized
  subst hsz
  have hD := hD0.self (sz := s.heap.size)
  generalize hAe : va_A [(h0, .inr (11, zf 6 f0)), (ho, .inr (0, zf 18 fh)), (ma, .inr (2, zf 19 fm)), (ta, .inr (6, zf 3 ft))] s.heap.size = A at hD ⊢
  have hA : ∀ q : Nat, s.heap.size ≤ q → A q := fun q h => by rw [← hAe]; exact Or.inr h
  have hS : va_S A s.heap s.heap [] := va_S.rf
  have hP : va_P D vwCl [(h0, .inr (11, zf 6 f0)), (ho, .inr (0, zf 18 fh)), (ma, .inr (2, zf 19 fm)), (ta, .inr (6, zf 3 ft))] s.heap := hP
  have hl := lv_entry ([.ref h0, .int n0]) (n := 4) (Nat.le_of_ble_eq_true rfl)
  rw [lg_entry_eq]
  generalize (lg_sl ([.ref h0, .int n0]) ++ List.replicate (4 - (lg_sl ([.ref h0, .int n0])).length) Slot.unset).toArray = ls at hl ⊢
  have hl : lv_has ls 4 [(0, .ref h0), (1, .int n0)] := hl
  refine lv_aload_n hx hb dX11_tell_0 rfl (lv_at hl 0 rfl) ?_
  refine z_get (T := TX11) (N := 6) (ci := 11) hx hb hts (zi_11 _) hown hK hP 0 rfl rfl 2 (by decide) (hts _ (zm_175 _)) rfl h0_2 dX11_tell_1 ?_
  refine z_getN (T := TX0) (N := 18) (ci := 0) hx hb hts (zi_0 _) hown hK hP 1 rfl rfl 12 (by decide) (hZ.2.1 _ zn_30) rfl h1_12 dX11_tell_4 ?_
  refine lv_if_eq (tgt := 13) hx hb dX11_tell_7 (by decide) (fun _ => ?_) (fun c9 => absurd (by decide) c9)
  refine lv_aload_n hx hb dX11_tell_13 rfl (lv_at hl 0 rfl) ?_
  refine z_get (T := TX11) (N := 6) (ci := 11) hx hb hts (zi_11 _) hown hK hP 0 rfl rfl 0 (by decide) (hts _ (zm_172 _)) rfl h0_0 dX11_tell_14 ?_
  refine z_getN (T := TX6) (N := 3) (ci := 6) hx hb hts (zi_6 _) hown hK hP 3 rfl rfl 1 (by decide) (hZ.2.1 _ zn_28) rfl h3_1 dX11_tell_17 ?_
  refine lv_istore_n (lv' := [(2, .int 0), (0, .ref h0), (1, .int n0)]) hx hb dX11_tell_20 rfl hl (by decide) rfl (fun ls hl => ?_)
  refine lv_aload_n hx hb dX11_tell_21 rfl (lv_at hl 1 rfl) ?_
  refine z_get (T := TX11) (N := 6) (ci := 11) hx hb hts (zi_11 _) hown hK hP 0 rfl rfl 0 (by decide) (hts _ (zm_172 _)) rfl h0_0 dX11_tell_22 ?_
  have hPc := hP.sub (ws' := [(ta, .inr (6, zf 3 ft))]) [3] rfl
  have hDc := hD.sub (ws' := [(ta, .inr (6, zf 3 ft))]) [3] (by decide) rfl
  have hFc := va_free (wc := [(ta, .inr (6, zf 3 ft))]) hD hS hA [3] rfl
  have h_2 : 0 + 0 ≤ 0 ∧ 0 + 0 ≤ 0 := by omega
  refine va_callv (va_runVN (As := []) (rest := []) ⟨hx, hb, hml, hown, hts⟩ (c_Row_clear l D x ta ft b0 s.heap.size h3_0) ⟨va_cnB 0 hts (zgood (zm_181 _) rfl) rfl rfl rfl (hZ.2.1 _ zn_31) (hts _ (zm_7 _)) ⟨by decide, by decide, by decide +kernel⟩ ⟨Nat.le_of_ble_eq_true rfl, Nat.le_of_ble_eq_true rfl⟩, hts _ (zm_182 _), hts _ (zm_183 _)⟩ ⟨fun a U g mk q => by obtain ⟨q0, q1, qP, qK, qD⟩ := q; exact ⟨q0, q1, qP, ZK.calling (u := U) zN_ok rfl qK, qD⟩, va_recv hK hPc (ci := 6) (q0 := 0) rfl rfl, fun U hU hW => ⟨rfl, by rw [hU], by rw [hU]; exact hPc, ZK.warm zN_ok hW hZ, hDc.weaken (fun _ _ _ _ => trivial)⟩⟩ rfl rfl hl.1 rfl (lv_room (Nat.le_of_ble_eq_true rfl)) dX11_tell_25 h_2) hS (fun q _ h => hFc q h) hFc (fun c0_1 t H1 locs ht hvm hw_1 hB hz1 hk1 hS => ?_)
  obtain ⟨hP1, hD1⟩ := hB
  rw [ht] at hP1
  try dsimp only at hw_1
  obtain ⟨hP, hD⟩ := va_join (wr := [(h0, .inr (11, zf 6 f0)), (ho, .inr (0, zf 18 fh)), (ma, .inr (2, zf 19 fm))]) (w1 := [(ta, .inr (6, zf 3 c0_1))]) hP hD [3] [0, 1, 2] rfl rfl (by decide) (by decide) hk1 hFc hP1 hD1
  generalize H1 = H at hP hS ⊢
  have hP : va_P D vwCl [(h0, .inr (11, zf 6 f0)), (ho, .inr (0, zf 18 fh)), (ma, .inr (2, zf 19 fm)), (ta, .inr (6, zf 3 c0_1))] H := hP
  have hD : va_D A [(h0, .inr (11, zf 6 f0)), (ho, .inr (0, zf 18 fh)), (ma, .inr (2, zf 19 fm)), (ta, .inr (6, zf 3 c0_1))] := hD
  refine W.widen (k := 0) (n := 0) (by omega) (by omega) ?_
  refine lv_aload_n hx hb dX11_tell_28 rfl (lv_at hl 1 rfl) ?_
  refine z_get (T := TX11) (N := 6) (ci := 11) hx hb hts (zi_11 _) hown hK hP 0 rfl rfl 3 (by decide) (hts _ (zm_177 _)) rfl h0_3 dX11_tell_29 ?_
  refine lv_iload_n hx hb dX11_tell_32 rfl (lv_at hl 2 rfl) ?_
  have hPc := hP.sub (ws' := [(ma, .inr (2, zf 19 fm))]) [2] rfl
  have hDc := hD.sub (ws' := [(ma, .inr (2, zf 19 fm))]) [2] (by decide) rfl
  have hFc := va_free (wc := [(ma, .inr (2, zf 19 fm))]) hD hS hA [2] rfl
  have h_4 : 0 + 0 ≤ 0 ∧ 0 + 0 ≤ 0 := by omega
  refine va_callq (va_runVN (As := [.int n0]) (rest := []) ⟨hx, hb, hml, hown, hts⟩ (c_living0 l D x n0 ma fm H.size h2_4) ⟨va_cnB 1 hts (zgood (zm_289 _) rfl) rfl rfl rfl (hZ.2.1 _ zn_51) (hts _ (zm_146 _)) ⟨by decide, by decide, by decide +kernel⟩ ⟨Nat.le_of_ble_eq_true rfl, Nat.le_of_ble_eq_true rfl⟩, hts _ (zm_290 _), hts _ (zm_291 _)⟩ ⟨fun a U g mk q => by obtain ⟨q0, q1, qP, qK, qD⟩ := q; exact ⟨q0, q1, qP, ZK.calling (u := U) zN_ok rfl qK, qD⟩, va_recv hK hPc (ci := 2) (q0 := 0) rfl rfl, fun U hU hW => ⟨rfl, by rw [hU], by rw [hU]; exact hPc, ZK.warm zN_ok hW hZ, hDc.weaken (fun _ _ _ _ => trivial)⟩⟩ rfl rfl hl.1 rfl (lv_room (Nat.le_of_ble_eq_true rfl)) dX11_tell_33 h_4) hS (fun q _ h => hFc q h) hFc (fun r_3 u t H1 locs ht hvm hw_3 hB hz1 hk1 hS => ?_)
  obtain ⟨hP1, hD1⟩ := hB
  rw [ht] at hP1
  try dsimp only at hw_3
  obtain ⟨hP, hD⟩ := va_join (wr := [(h0, .inr (11, zf 6 f0)), (ho, .inr (0, zf 18 fh)), (ta, .inr (6, zf 3 c0_1))]) (w1 := [(ma, .inr (2, zf 19 fm))]) hP hD [2] [0, 1, 3] rfl rfl (by decide) (by decide) hk1 hFc hP1 hD1
  generalize H1 = H at hP hS ⊢
  have hP : va_P D vwCl [(h0, .inr (11, zf 6 f0)), (ho, .inr (0, zf 18 fh)), (ta, .inr (6, zf 3 c0_1)), (ma, .inr (2, zf 19 fm))] H := hP
  have hD : va_D A [(h0, .inr (11, zf 6 f0)), (ho, .inr (0, zf 18 fh)), (ta, .inr (6, zf 3 c0_1)), (ma, .inr (2, zf 19 fm))] := hD
  refine W.widen (k := 0) (n := 0) (by omega) (by omega) ?_
  obtain rfl : r_3 = none := hw_3
  refine lv_astore_nN (lv' := [(3, .null), (2, .int 0), (0, .ref h0), (1, .int n0)]) hx hb dX11_tell_36 rfl hl (by decide) rfl (fun ls hl => ?_)
  refine lv_aload_nN hx hb dX11_tell_37 rfl (lv_at hl 0 rfl) ?_
  refine lv_ifnullN (tgt := 48) hx hb dX11_tell_38 (by decide) ?_
  refine lv_iconst (v := (-1)) hx hb dX11_tell_48 (by decide) ?_
  refine W.widen (k := 0) (n := 0) (Nat.le_of_ble_eq_true rfl) (Nat.le_of_ble_eq_true rfl) ?_
  exact W.iret (v := (-1)) hx hb hr (fun t ht hW => ⟨⟨_, (), rfl, rfl, trivial⟩, hS.F ht⟩) hS.2.2 dX11_tell_49

set_option maxHeartbeats 8000000 in
set_option maxRecDepth 100000 in
/--  -/
theorem c_result (l : Launch) (D : va_G) (x : Nat → ClassId) (n0 : Int32) (h0 : Nat) (f0 : Nat → Value) (re : Nat) (ft : Nat → Value) (sz : Nat) (h0_1 : f0 1 = .ref re) (h1_1 : ft 1 = .int 0) : Met l yX11_result (.code yX11_result cX11_result 2 (some .int) :: zW) ({ frames := 1, cells := (0), slots := (0), locals := 21 }) (va_Pc [.ref h0, .int n0] (fun U => U.heap.size = sz ∧ va_P D vwCl [(h0, .inr (11, zf 6 f0)), (re, .inr (6, zf 3 ft))] U.heap ∧ zK x D U ∧ va_D (fun _ => True) [(h0, .inr (11, zf 6 f0)), (re, .inr (6, zf 3 ft))])) (va_Qi (fun (r : Int32) (u : Unit) => r = (-1)) (fun u t => True) (va_A [(h0, .inr (11, zf 6 f0)), (re, .inr (6, zf 3 ft))] sz)) (0) (0) (va_A [(h0, .inr (11, zf 6 f0)), (re, .inr (6, zf 3 ft))] sz) := by
  refine Met.ofW (cc := cX11_result) (maxL := 2) (ret := (some .int)) (by decide) rfl ?_
  intro p e s m args below meth c s₁ B hml hv
  obtain ⟨rfl, hsz, hP, hZ, hD0⟩ := hv
  have hK := hZ.1
  have hx := B.exec
  have hb := B.bytes
  have hr := B.returns
  have hts := atoms_spec (ws := .code yX11_result cX11_result 2 (some .int) :: zW) B.pre
  have hown : s.vm.findClass RX11 = some m.cls := findClass_of_methodNamed B.named
  have hlocks := B.notSynchronized
  subst hsz
  have hD := hD0.self (sz := s.heap.size)
  generalize hAe : va_A [(h0, .inr (11, zf 6 f0)), (re, .inr (6, zf 3 ft))] s.heap.size = A at hD ⊢
  have hA : ∀ q : Nat, s.heap.size ≤ q → A q := fun q h => by rw [← hAe]; exact Or.inr h
  have hS : va_S A s.heap s.heap [] := va_S.rf
  have hP : va_P D vwCl [(h0, .inr (11, zf 6 f0)), (re, .inr (6, zf 3 ft))] s.heap := hP
  have hl := lv_entry ([.ref h0, .int n0]) (n := 2) (Nat.le_of_ble_eq_true rfl)
  rw [lg_entry_eq]
  generalize (lg_sl ([.ref h0, .int n0]) ++ List.replicate (2 - (lg_sl ([.ref h0, .int n0])).length) Slot.unset).toArray = ls at hl ⊢
  have hl : lv_has ls 2 [(0, .ref h0), (1, .int n0)] := hl
  refine lv_aload_n hx hb dX11_result_0 rfl (lv_at hl 0 rfl) ?_
  refine z_get (T := TX11) (N := 6) (ci := 11) hx hb hts (zi_11 _) hown hK hP 0 rfl rfl 1 (by decide) (hts _ (zm_173 _)) rfl h0_1 dX11_result_1 ?_
  refine lv_iload_n hx hb dX11_result_4 rfl (lv_at hl 1 rfl) ?_
  have hPc := hP.sub (ws' := [(re, .inr (6, zf 3 ft))]) [1] rfl
  have hDc := hD.sub (ws' := [(re, .inr (6, zf 3 ft))]) [1] (by decide) rfl
  have hFc := va_free (wc := [(re, .inr (6, zf 3 ft))]) hD hS hA [1] rfl
  have h_2 : 0 + 0 ≤ 0 ∧ 0 + 0 ≤ 0 := by omega
  refine va_calli (va_runVN (As := [.int n0]) (rest := []) ⟨hx, hb, hml, hown, hts⟩ (c_at0 l D x n0 re ft s.heap.size h1_1) ⟨va_cnB 1 hts (zgood (zm_186 _) rfl) rfl rfl rfl (hZ.2.1 _ zn_85) (hts _ (zm_7 _)) ⟨by decide, by decide, by decide +kernel⟩ ⟨Nat.le_of_ble_eq_true rfl, Nat.le_of_ble_eq_true rfl⟩, hts _ (zm_187 _), hts _ (zm_188 _)⟩ ⟨fun a U g mk q => by obtain ⟨q0, q1, qP, qK, qD⟩ := q; exact ⟨q0, q1, qP, ZK.calling (u := U) zN_ok rfl qK, qD⟩, va_recv hK hPc (ci := 6) (q0 := 0) rfl rfl, fun U hU hW => ⟨rfl, by rw [hU], by rw [hU]; exact hPc, ZK.warm zN_ok hW hZ, hDc.weaken (fun _ _ _ _ => trivial)⟩⟩ rfl rfl hl.1 rfl (lv_room (Nat.le_of_ble_eq_true rfl)) dX11_result_5 h_2) hS (fun q _ h => hFc q h) hFc (fun r_1 u t H1 locs ht hvm hw_1 hB hz1 hk1 hS => ?_)
  obtain ⟨hP1, hD1⟩ := hB
  rw [ht] at hP1
  try dsimp only at hw_1
  obtain ⟨hP, hD⟩ := va_join (wr := [(h0, .inr (11, zf 6 f0))]) (w1 := [(re, .inr (6, zf 3 ft))]) hP hD [1] [0] rfl rfl (by decide) (by decide) hk1 hFc hP1 hD1
  generalize H1 = H at hP hS ⊢
  have hP : va_P D vwCl [(h0, .inr (11, zf 6 f0)), (re, .inr (6, zf 3 ft))] H := hP
  have hD : va_D A [(h0, .inr (11, zf 6 f0)), (re, .inr (6, zf 3 ft))] := hD
  refine W.widen (k := 0) (n := 0) (by omega) (by omega) ?_
  obtain rfl : r_1 = (-1) := hw_1
  refine W.widen (k := 0) (n := 0) (Nat.le_of_ble_eq_true rfl) (Nat.le_of_ble_eq_true rfl) ?_
  exact W.iret (v := (-1)) hx hb hr (fun t ht hW => ⟨⟨_, (), rfl, rfl, trivial⟩, hS.F ht⟩) hS.2.2 dX11_result_8

set_option maxHeartbeats 8000000 in
set_option maxRecDepth 100000 in
/--  -/
theorem c_lock (l : Launch) (D : va_G) (x : Nat → ClassId) (n0 : Int32) (n1 : Int32) (h0 : Nat) (f0 : Nat → Value) (ho : Nat) (fh : Nat → Value) (sz : Nat) (h0_2 : f0 2 = .ref ho) (h1_12 : fh 12 = .int 0) (h1_14 : fh 14 = .int 0) : Met l yX11_lock (.code yX11_lock cX11_lock 4 (some .int) :: zW) ({ frames := 1, cells := (0), slots := (0), locals := 27 }) (va_Pc [.ref h0, .int n0, .int n1] (fun U => U.heap.size = sz ∧ va_P D vwCl [(h0, .inr (11, zf 6 f0)), (ho, .inr (0, zf 18 fh))] U.heap ∧ zK x D U ∧ va_D (fun _ => True) [(h0, .inr (11, zf 6 f0)), (ho, .inr (0, zf 18 fh))])) (va_Qi (fun (r : Int32) (u : Unit) => r = (-1)) (fun u t => True) (va_A [(h0, .inr (11, zf 6 f0)), (ho, .inr (0, zf 18 fh))] sz)) (0) (0) (va_A [(h0, .inr (11, zf 6 f0)), (ho, .inr (0, zf 18 fh))] sz) := by
  refine Met.ofW (cc := cX11_lock) (maxL := 4) (ret := (some .int)) (by decide) rfl ?_
  intro p e s m args below meth c s₁ B hml hv
  obtain ⟨rfl, hsz, hP, hZ, hD0⟩ := hv
  have hK := hZ.1
  have hx := B.exec
  have hb := B.bytes
  have hr := B.returns
  have hts := atoms_spec (ws := .code yX11_lock cX11_lock 4 (some .int) :: zW) B.pre
  have hown : s.vm.findClass RX11 = some m.cls := findClass_of_methodNamed B.named
  have hlocks := B.notSynchronized
  subst hsz
  have hD := hD0.self (sz := s.heap.size)
  generalize hAe : va_A [(h0, .inr (11, zf 6 f0)), (ho, .inr (0, zf 18 fh))] s.heap.size = A at hD ⊢
  have hA : ∀ q : Nat, s.heap.size ≤ q → A q := fun q h => by rw [← hAe]; exact Or.inr h
  have hS : va_S A s.heap s.heap [] := va_S.rf
  have hP : va_P D vwCl [(h0, .inr (11, zf 6 f0)), (ho, .inr (0, zf 18 fh))] s.heap := hP
  have hl := lv_entry ([.ref h0, .int n0, .int n1]) (n := 4) (Nat.le_of_ble_eq_true rfl)
  rw [lg_entry_eq]
  generalize (lg_sl ([.ref h0, .int n0, .int n1]) ++ List.replicate (4 - (lg_sl ([.ref h0, .int n0, .int n1])).length) Slot.unset).toArray = ls at hl ⊢
  have hl : lv_has ls 4 [(0, .ref h0), (1, .int n0), (2, .int n1)] := hl
  refine lv_aload_n hx hb dX11_lock_0 rfl (lv_at hl 0 rfl) ?_
  refine z_get (T := TX11) (N := 6) (ci := 11) hx hb hts (zi_11 _) hown hK hP 0 rfl rfl 2 (by decide) (hts _ (zm_175 _)) rfl h0_2 dX11_lock_1 ?_
  refine z_getN (T := TX0) (N := 18) (ci := 0) hx hb hts (zi_0 _) hown hK hP 1 rfl rfl 12 (by decide) (hZ.2.1 _ zn_30) rfl h1_12 dX11_lock_4 ?_
  refine lv_if_eq (tgt := 13) hx hb dX11_lock_7 (by decide) (fun _ => ?_) (fun c9 => absurd (by decide) c9)
  refine lv_iload_n hx hb dX11_lock_13 rfl (lv_at hl 2 rfl) ?_
  refine lv_if_lt (tgt := 22) hx hb dX11_lock_14 (by decide) (fun c_1 => ?_) (fun c_1 => ?_)
  · skip
    refine lv_null hx hb dX11_lock_22 ?_
    refine lv_goto (tgt := 34) hx hb dX11_lock_23 (by decide) ?_
    refine lv_astore_nN (lv' := [(3, .null), (0, .ref h0), (1, .int n0), (2, .int n1)]) hx hb dX11_lock_34 rfl hl (by decide) rfl (fun ls hl => ?_)
    refine lv_aload_nN hx hb dX11_lock_35 rfl (lv_at hl 0 rfl) ?_
    refine lv_ifnonnullN hx hb dX11_lock_36 ?_
    refine lv_iconst (v := (-1)) hx hb dX11_lock_39 (by decide) ?_
    refine W.widen (k := 0) (n := 0) (Nat.le_of_ble_eq_true rfl) (Nat.le_of_ble_eq_true rfl) ?_
    exact W.iret (v := (-1)) hx hb hr (fun t ht hW => ⟨⟨_, (), rfl, rfl, trivial⟩, hS.F ht⟩) hS.2.2 dX11_lock_40
  · skip
    refine lv_iload_n hx hb dX11_lock_17 rfl (lv_at hl 2 rfl) ?_
    refine lv_iconst (v := 2) hx hb dX11_lock_18 (by decide) ?_
    refine lv_icmp_le (tgt := 26) hx hb dX11_lock_19 (by decide) (fun c_2 => ?_) (fun c_2 => ?_)
    · skip
      refine lv_aload_n hx hb dX11_lock_26 rfl (lv_at hl 0 rfl) ?_
      refine z_get (T := TX11) (N := 6) (ci := 11) hx hb hts (zi_11 _) hown hK hP 0 rfl rfl 2 (by decide) (hts _ (zm_175 _)) rfl h0_2 dX11_lock_27 ?_
      refine lv_iload_n hx hb dX11_lock_30 rfl (lv_at hl 1 rfl) ?_
      have hPc := hP.sub (ws' := [(ho, .inr (0, zf 18 fh))]) [1] rfl
      have hDc := hD.sub (ws' := [(ho, .inr (0, zf 18 fh))]) [1] (by decide) rfl
      have hFc := va_free (wc := [(ho, .inr (0, zf 18 fh))]) hD hS hA [1] rfl
      have h_4 : 0 + 0 ≤ 0 ∧ 0 + 0 ≤ 0 := by omega
      refine va_callq (va_runVN (As := [.int n0]) (rest := []) ⟨hx, hb, hml, hown, hts⟩ (c_lockAt0 l D x n0 ho fh s.heap.size h1_14) ⟨va_cnB 1 hts (zgood (zm_426 _) rfl) rfl rfl rfl (hZ.2.1 _ zn_99) (hts _ (zm_128 _)) ⟨by decide, by decide, by decide +kernel⟩ ⟨Nat.le_of_ble_eq_true rfl, Nat.le_of_ble_eq_true rfl⟩, hts _ (zm_427 _), hts _ (zm_428 _)⟩ ⟨fun a U g mk q => by obtain ⟨q0, q1, qP, qK, qD⟩ := q; exact ⟨q0, q1, qP, ZK.calling (u := U) zN_ok rfl qK, qD⟩, va_recv hK hPc (ci := 0) (q0 := 0) rfl rfl, fun U hU hW => ⟨rfl, by rw [hU], by rw [hU]; exact hPc, ZK.warm zN_ok hW hZ, hDc.weaken (fun _ _ _ _ => trivial)⟩⟩ rfl rfl hl.1 rfl (lv_room (Nat.le_of_ble_eq_true rfl)) dX11_lock_31 h_4) hS (fun q _ h => hFc q h) hFc (fun r_3 u t H1 locs ht hvm hw_3 hB hz1 hk1 hS => ?_)
      obtain ⟨hP1, hD1⟩ := hB
      rw [ht] at hP1
      try dsimp only at hw_3
      obtain ⟨hP, hD⟩ := va_join (wr := [(h0, .inr (11, zf 6 f0))]) (w1 := [(ho, .inr (0, zf 18 fh))]) hP hD [1] [0] rfl rfl (by decide) (by decide) hk1 hFc hP1 hD1
      generalize H1 = H at hP hS ⊢
      have hP : va_P D vwCl [(h0, .inr (11, zf 6 f0)), (ho, .inr (0, zf 18 fh))] H := hP
      have hD : va_D A [(h0, .inr (11, zf 6 f0)), (ho, .inr (0, zf 18 fh))] := hD
      refine W.widen (k := 0) (n := 0) (by omega) (by omega) ?_
      obtain rfl : r_3 = none := hw_3
      refine lv_astore_nN (lv' := [(3, .null), (0, .ref h0), (1, .int n0), (2, .int n1)]) hx hb dX11_lock_34 rfl hl (by decide) rfl (fun ls hl => ?_)
      refine lv_aload_nN hx hb dX11_lock_35 rfl (lv_at hl 0 rfl) ?_
      refine lv_ifnonnullN hx hb dX11_lock_36 ?_
      refine lv_iconst (v := (-1)) hx hb dX11_lock_39 (by decide) ?_
      refine W.widen (k := 0) (n := 0) (Nat.le_of_ble_eq_true rfl) (Nat.le_of_ble_eq_true rfl) ?_
      exact W.iret (v := (-1)) hx hb hr (fun t ht hW => ⟨⟨_, (), rfl, rfl, trivial⟩, hS.F ht⟩) hS.2.2 dX11_lock_40
    · skip
      refine lv_null hx hb dX11_lock_22 ?_
      refine lv_goto (tgt := 34) hx hb dX11_lock_23 (by decide) ?_
      refine lv_astore_nN (lv' := [(3, .null), (0, .ref h0), (1, .int n0), (2, .int n1)]) hx hb dX11_lock_34 rfl hl (by decide) rfl (fun ls hl => ?_)
      refine lv_aload_nN hx hb dX11_lock_35 rfl (lv_at hl 0 rfl) ?_
      refine lv_ifnonnullN hx hb dX11_lock_36 ?_
      refine lv_iconst (v := (-1)) hx hb dX11_lock_39 (by decide) ?_
      refine W.widen (k := 0) (n := 0) (Nat.le_of_ble_eq_true rfl) (Nat.le_of_ble_eq_true rfl) ?_
      exact W.iret (v := (-1)) hx hb hr (fun t ht hW => ⟨⟨_, (), rfl, rfl, trivial⟩, hS.F ht⟩) hS.2.2 dX11_lock_40

set_option maxHeartbeats 8000000 in
set_option maxRecDepth 100000 in
/--  -/
theorem c_sound (l : Launch) (D : va_G) (x : Nat → ClassId) (h0 : Nat) (f0 : Nat → Value) (ho : Nat) (fh : Nat → Value) (ma : Nat) (fm : Nat → Value) (tg : Nat) (f3 : Nat → Value) (tl : Nat) (f4 : Nat → Value) (sz : Nat) (h0_2 : f0 2 = .ref ho) (h0_3 : f0 3 = .ref ma) (h1_12 : fh 12 = .int 0) (h1_0 : fh 0 = .ref tg) (h2_1 : fm 1 = .ref tl) (h3_5 : f3 5 = .int 0) (h4_5 : f4 5 = .int 0) : Met l yX11_sound (.code yX11_sound cX11_sound 1 (some .int) :: zW) ({ frames := 1, cells := (0), slots := (0), locals := 22 }) (va_Pc [.ref h0] (fun U => U.heap.size = sz ∧ va_P D vwCl [(h0, .inr (11, zf 6 f0)), (ho, .inr (0, zf 18 fh)), (ma, .inr (2, zf 19 fm)), (tg, .inr (9, zf 8 f3)), (tl, .inr (9, zf 8 f4))] U.heap ∧ zK x D U ∧ va_D (fun _ => True) [(h0, .inr (11, zf 6 f0)), (ho, .inr (0, zf 18 fh)), (ma, .inr (2, zf 19 fm)), (tg, .inr (9, zf 8 f3)), (tl, .inr (9, zf 8 f4))])) (va_Qi (fun (r : Int32) (u : Unit) => r = 1) (fun u t => True) (va_A [(h0, .inr (11, zf 6 f0)), (ho, .inr (0, zf 18 fh)), (ma, .inr (2, zf 19 fm)), (tg, .inr (9, zf 8 f3)), (tl, .inr (9, zf 8 f4))] sz)) (0) (0) (va_A [(h0, .inr (11, zf 6 f0)), (ho, .inr (0, zf 18 fh)), (ma, .inr (2, zf 19 fm)), (tg, .inr (9, zf 8 f3)), (tl, .inr (9, zf 8 f4))] sz) := by
  refine Met.ofW (cc := cX11_sound) (maxL := 1) (ret := (some .int)) (by decide) rfl ?_
  intro p e s m args below meth c s₁ B hml hv
  obtain ⟨rfl, hsz, hP, hZ, hD0⟩ := hv
  have hK := hZ.1
  have hx := B.exec
  have hb := B.bytes
  have hr := B.returns
  have hts := atoms_spec (ws := .code yX11_sound cX11_sound 1 (some .int) :: zW) B.pre
  have hown : s.vm.findClass RX11 = some m.cls := findClass_of_methodNamed B.named
  have hlocks := B.notSynchronized
  subst hsz
  have hD := hD0.self (sz := s.heap.size)
  generalize hAe : va_A [(h0, .inr (11, zf 6 f0)), (ho, .inr (0, zf 18 fh)), (ma, .inr (2, zf 19 fm)), (tg, .inr (9, zf 8 f3)), (tl, .inr (9, zf 8 f4))] s.heap.size = A at hD ⊢
  have hA : ∀ q : Nat, s.heap.size ≤ q → A q := fun q h => by rw [← hAe]; exact Or.inr h
  have hS : va_S A s.heap s.heap [] := va_S.rf
  have hP : va_P D vwCl [(h0, .inr (11, zf 6 f0)), (ho, .inr (0, zf 18 fh)), (ma, .inr (2, zf 19 fm)), (tg, .inr (9, zf 8 f3)), (tl, .inr (9, zf 8 f4))] s.heap := hP
  have hl := lv_entry ([.ref h0]) (n := 1) (Nat.le_of_ble_eq_true rfl)
  rw [lg_entry_eq]
  generalize (lg_sl ([.ref h0]) ++ List.replicate (1 - (lg_sl ([.ref h0])).length) Slot.unset).toArray = ls at hl ⊢
  have hl : lv_has ls 1 [(0, .ref h0)] := hl
  refine lv_aload_n hx hb dX11_sound_0 rfl (lv_at hl 0 rfl) ?_
  refine z_get (T := TX11) (N := 6) (ci := 11) hx hb hts (zi_11 _) hown hK hP 0 rfl rfl 2 (by decide) (hts _ (zm_175 _)) rfl h0_2 dX11_sound_1 ?_
  refine z_getN (T := TX0) (N := 18) (ci := 0) hx hb hts (zi_0 _) hown hK hP 1 rfl rfl 12 (by decide) (hZ.2.1 _ zn_30) rfl h1_12 dX11_sound_4 ?_
  refine lv_if_eq (tgt := 13) hx hb dX11_sound_7 (by decide) (fun _ => ?_) (fun c9 => absurd (by decide) c9)
  refine lv_aload_n hx hb dX11_sound_13 rfl (lv_at hl 0 rfl) ?_
  refine z_get (T := TX11) (N := 6) (ci := 11) hx hb hts (zi_11 _) hown hK hP 0 rfl rfl 2 (by decide) (hts _ (zm_175 _)) rfl h0_2 dX11_sound_14 ?_
  refine z_getN (T := TX0) (N := 18) (ci := 0) hx hb hts (zi_0 _) hown hK hP 1 rfl rfl 0 (by decide) (hZ.2.1 _ zn_103) rfl h1_0 dX11_sound_17 ?_
  have hPc := hP.sub (ws' := [(tg, .inr (9, zf 8 f3))]) [3] rfl
  have hDc := hD.sub (ws' := [(tg, .inr (9, zf 8 f3))]) [3] (by decide) rfl
  have hFc := va_free (wc := [(tg, .inr (9, zf 8 f3))]) hD hS hA [3] rfl
  have h_2 : 0 + 0 ≤ 0 ∧ 0 + 0 ≤ 0 := by omega
  refine va_calli (va_runVN (As := []) (rest := []) ⟨hx, hb, hml, hown, hts⟩ (c_inOrder0 l D x tg f3 s.heap.size h3_5) ⟨va_cnB 0 hts (zgood (zm_444 _) rfl) rfl rfl rfl (hZ.2.1 _ zn_112) (hts _ (zm_114 _)) ⟨by decide, by decide, by decide +kernel⟩ ⟨Nat.le_of_ble_eq_true rfl, Nat.le_of_ble_eq_true rfl⟩, hts _ (zm_445 _), hts _ (zm_446 _)⟩ ⟨fun a U g mk q => by obtain ⟨q0, q1, qP, qK, qD⟩ := q; exact ⟨q0, q1, qP, ZK.calling (u := U) zN_ok rfl qK, qD⟩, va_recv hK hPc (ci := 9) (q0 := 0) rfl rfl, fun U hU hW => ⟨rfl, by rw [hU], by rw [hU]; exact hPc, ZK.warm zN_ok hW hZ, hDc.weaken (fun _ _ _ _ => trivial)⟩⟩ rfl rfl hl.1 rfl (lv_room (Nat.le_of_ble_eq_true rfl)) dX11_sound_20 h_2) hS (fun q _ h => hFc q h) hFc (fun r_1 u t H1 locs ht hvm hw_1 hB hz1 hk1 hS => ?_)
  obtain ⟨hP1, hD1⟩ := hB
  rw [ht] at hP1
  try dsimp only at hw_1
  obtain ⟨hP, hD⟩ := va_join (wr := [(h0, .inr (11, zf 6 f0)), (ho, .inr (0, zf 18 fh)), (ma, .inr (2, zf 19 fm)), (tl, .inr (9, zf 8 f4))]) (w1 := [(tg, .inr (9, zf 8 f3))]) hP hD [3] [0, 1, 2, 4] rfl rfl (by decide) (by decide) hk1 hFc hP1 hD1
  generalize H1 = H at hP hS ⊢
  have hP : va_P D vwCl [(h0, .inr (11, zf 6 f0)), (ho, .inr (0, zf 18 fh)), (ma, .inr (2, zf 19 fm)), (tl, .inr (9, zf 8 f4)), (tg, .inr (9, zf 8 f3))] H := hP
  have hD : va_D A [(h0, .inr (11, zf 6 f0)), (ho, .inr (0, zf 18 fh)), (ma, .inr (2, zf 19 fm)), (tl, .inr (9, zf 8 f4)), (tg, .inr (9, zf 8 f3))] := hD
  refine W.widen (k := 0) (n := 0) (by omega) (by omega) ?_
  obtain rfl : r_1 = 1 := hw_1
  refine lv_if_eq (tgt := 43) hx hb dX11_sound_23 (by decide) (fun c9 => absurd c9 (by decide)) (fun _ => ?_)
  refine lv_aload_n hx hb dX11_sound_26 rfl (lv_at hl 0 rfl) ?_
  refine z_get (T := TX11) (N := 6) (ci := 11) hx hb hts (zi_11 _) hown hK hP 0 rfl rfl 3 (by decide) (hts _ (zm_177 _)) rfl h0_3 dX11_sound_27 ?_
  refine z_getN (T := TX2) (N := 19) (ci := 2) hx hb hts (zi_2 _) hown hK hP 2 rfl rfl 1 (by decide) (hZ.2.1 _ zn_105) rfl h2_1 dX11_sound_30 ?_
  have hPc := hP.sub (ws' := [(tl, .inr (9, zf 8 f4))]) [3] rfl
  have hDc := hD.sub (ws' := [(tl, .inr (9, zf 8 f4))]) [3] (by decide) rfl
  have hFc := va_free (wc := [(tl, .inr (9, zf 8 f4))]) hD hS hA [3] rfl
  have h_4 : 0 + 0 ≤ 0 ∧ 0 + 0 ≤ 0 := by omega
  refine va_calli (va_runVN (As := []) (rest := []) ⟨hx, hb, hml, hown, hts⟩ (c_inOrder0 l D x tl f4 H.size h4_5) ⟨va_cnB 0 hts (zgood (zm_444 _) rfl) rfl rfl rfl (hZ.2.1 _ zn_112) (hts _ (zm_114 _)) ⟨by decide, by decide, by decide +kernel⟩ ⟨Nat.le_of_ble_eq_true rfl, Nat.le_of_ble_eq_true rfl⟩, hts _ (zm_445 _), hts _ (zm_446 _)⟩ ⟨fun a U g mk q => by obtain ⟨q0, q1, qP, qK, qD⟩ := q; exact ⟨q0, q1, qP, ZK.calling (u := U) zN_ok rfl qK, qD⟩, va_recv hK hPc (ci := 9) (q0 := 0) rfl rfl, fun U hU hW => ⟨rfl, by rw [hU], by rw [hU]; exact hPc, ZK.warm zN_ok hW hZ, hDc.weaken (fun _ _ _ _ => trivial)⟩⟩ rfl rfl hl.1 rfl (lv_room (Nat.le_of_ble_eq_true rfl)) dX11_sound_33 h_4) hS (fun q _ h => hFc q h) hFc (fun r_3 u t H1 locs ht hvm hw_3 hB hz1 hk1 hS => ?_)
  obtain ⟨hP1, hD1⟩ := hB
  rw [ht] at hP1
  try dsimp only at hw_3
  obtain ⟨hP, hD⟩ := va_join (wr := [(h0, .inr (11, zf 6 f0)), (ho, .inr (0, zf 18 fh)), (ma, .inr (2, zf 19 fm)), (tg, .inr (9, zf 8 f3))]) (w1 := [(tl, .inr (9, zf 8 f4))]) hP hD [3] [0, 1, 2, 4] rfl rfl (by decide) (by decide) hk1 hFc hP1 hD1
  generalize H1 = H at hP hS ⊢
  have hP : va_P D vwCl [(h0, .inr (11, zf 6 f0)), (ho, .inr (0, zf 18 fh)), (ma, .inr (2, zf 19 fm)), (tg, .inr (9, zf 8 f3)), (tl, .inr (9, zf 8 f4))] H := hP
  have hD : va_D A [(h0, .inr (11, zf 6 f0)), (ho, .inr (0, zf 18 fh)), (ma, .inr (2, zf 19 fm)), (tg, .inr (9, zf 8 f3)), (tl, .inr (9, zf 8 f4))] := hD
  refine W.widen (k := 0) (n := 0) (by omega) (by omega) ?_
  obtain rfl : r_3 = 1 := hw_3
  refine lv_if_eq (tgt := 43) hx hb dX11_sound_36 (by decide) (fun c9 => absurd c9 (by decide)) (fun _ => ?_)
  refine lv_iconst (v := 1) hx hb dX11_sound_39 (by decide) ?_
  refine lv_goto (tgt := 44) hx hb dX11_sound_40 (by decide) ?_
  refine W.widen (k := 0) (n := 0) (Nat.le_of_ble_eq_true rfl) (Nat.le_of_ble_eq_true rfl) ?_
  exact W.iret (v := 1) hx hb hr (fun t ht hW => ⟨⟨_, (), rfl, rfl, trivial⟩, hS.F ht⟩) hS.2.2 dX11_sound_44

set_option maxHeartbeats 8000000 in
set_option maxRecDepth 100000 in
/--  -/
theorem c_cut (l : Launch) (D : va_G) (x : Nat → ClassId) (n0 : Int32) (n1 : Int32) (h0 : Nat) (f0 : Nat → Value) (ho : Nat) (fh : Nat → Value) (sz : Nat) (h0_2 : f0 2 = .ref ho) (h1_12 : fh 12 = .int 0) : Met l yX11_cut (.code yX11_cut cX11_cut 3 (some .int) :: zW) ({ frames := 0, cells := (0), slots := (0), locals := 0 }) (va_Pc [.ref h0, .int n0, .int n1] (fun U => U.heap.size = sz ∧ va_P D vwCl [(h0, .inr (11, zf 6 f0)), (ho, .inr (0, zf 18 fh))] U.heap ∧ zK x D U ∧ va_D (fun _ => True) [(h0, .inr (11, zf 6 f0)), (ho, .inr (0, zf 18 fh))])) (va_Qi (fun (r : Int32) (u : Unit) => r = (zCut n0 n1)) (fun u t => True) (va_A [(h0, .inr (11, zf 6 f0)), (ho, .inr (0, zf 18 fh))] sz)) (0) (0) (va_A [(h0, .inr (11, zf 6 f0)), (ho, .inr (0, zf 18 fh))] sz) := by
  refine Met.ofW (cc := cX11_cut) (maxL := 3) (ret := (some .int)) (by decide) rfl ?_
  intro p e s m args below meth c s₁ B hml hv
  obtain ⟨rfl, hsz, hP, hZ, hD0⟩ := hv
  have hK := hZ.1
  have hx := B.exec
  have hb := B.bytes
  have hr := B.returns
  have hts := atoms_spec (ws := .code yX11_cut cX11_cut 3 (some .int) :: zW) B.pre
  have hown : s.vm.findClass RX11 = some m.cls := findClass_of_methodNamed B.named
  have hlocks := B.notSynchronized
  subst hsz
  have hD := hD0.self (sz := s.heap.size)
  generalize hAe : va_A [(h0, .inr (11, zf 6 f0)), (ho, .inr (0, zf 18 fh))] s.heap.size = A at hD ⊢
  have hA : ∀ q : Nat, s.heap.size ≤ q → A q := fun q h => by rw [← hAe]; exact Or.inr h
  have hS : va_S A s.heap s.heap [] := va_S.rf
  have hP : va_P D vwCl [(h0, .inr (11, zf 6 f0)), (ho, .inr (0, zf 18 fh))] s.heap := hP
  have hl := lv_entry ([.ref h0, .int n0, .int n1]) (n := 3) (Nat.le_of_ble_eq_true rfl)
  rw [lg_entry_eq]
  generalize (lg_sl ([.ref h0, .int n0, .int n1]) ++ List.replicate (3 - (lg_sl ([.ref h0, .int n0, .int n1])).length) Slot.unset).toArray = ls at hl ⊢
  have hl : lv_has ls 3 [(0, .ref h0), (1, .int n0), (2, .int n1)] := hl
  refine lv_aload_n hx hb dX11_cut_0 rfl (lv_at hl 0 rfl) ?_
  refine z_get (T := TX11) (N := 6) (ci := 11) hx hb hts (zi_11 _) hown hK hP 0 rfl rfl 2 (by decide) (hts _ (zm_175 _)) rfl h0_2 dX11_cut_1 ?_
  refine z_getN (T := TX0) (N := 18) (ci := 0) hx hb hts (zi_0 _) hown hK hP 1 rfl rfl 12 (by decide) (hZ.2.1 _ zn_30) rfl h1_12 dX11_cut_4 ?_
  refine lv_if_eq (tgt := 13) hx hb dX11_cut_7 (by decide) (fun _ => ?_) (fun c9 => absurd (by decide) c9)
  refine lv_iload_n hx hb dX11_cut_13 rfl (lv_at hl 1 rfl) ?_
  refine lv_iconst (v := (-1)) hx hb dX11_cut_14 (by decide) ?_
  refine lv_icmp_lt (tgt := 36) hx hb dX11_cut_15 (by decide) (fun c_1 => ?_) (fun c_1 => ?_)
  · skip
    refine lv_iconst (v := (-1)) hx hb dX11_cut_36 (by decide) ?_
    refine W.widen (k := 0) (n := 0) (Nat.le_of_ble_eq_true rfl) (Nat.le_of_ble_eq_true rfl) ?_
    exact W.iret (v := (-1)) hx hb hr (fun t ht hW => ⟨⟨_, (), rfl, by simp [zCut, *], trivial⟩, hS.F ht⟩) hS.2.2 dX11_cut_37
  · skip
    refine lv_iload_n hx hb dX11_cut_18 rfl (lv_at hl 1 rfl) ?_
    refine lv_sipush (v := 2000) hx hb dX11_cut_19 (by decide) ?_
    refine lv_icmp_gt (tgt := 36) hx hb dX11_cut_22 (by decide) (fun c_2 => ?_) (fun c_2 => ?_)
    · skip
      refine lv_iconst (v := (-1)) hx hb dX11_cut_36 (by decide) ?_
      refine W.widen (k := 0) (n := 0) (Nat.le_of_ble_eq_true rfl) (Nat.le_of_ble_eq_true rfl) ?_
      exact W.iret (v := (-1)) hx hb hr (fun t ht hW => ⟨⟨_, (), rfl, by simp [zCut, *], trivial⟩, hS.F ht⟩) hS.2.2 dX11_cut_37
    · skip
      refine lv_iload_n hx hb dX11_cut_25 rfl (lv_at hl 2 rfl) ?_
      refine lv_if_lt (tgt := 36) hx hb dX11_cut_26 (by decide) (fun c_3 => ?_) (fun c_3 => ?_)
      · skip
        refine lv_iconst (v := (-1)) hx hb dX11_cut_36 (by decide) ?_
        refine W.widen (k := 0) (n := 0) (Nat.le_of_ble_eq_true rfl) (Nat.le_of_ble_eq_true rfl) ?_
        exact W.iret (v := (-1)) hx hb hr (fun t ht hW => ⟨⟨_, (), rfl, by simp [zCut, *], trivial⟩, hS.F ht⟩) hS.2.2 dX11_cut_37
      · skip
        refine lv_iload_n hx hb dX11_cut_29 rfl (lv_at hl 2 rfl) ?_
        refine lv_sipush (v := 256) hx hb dX11_cut_30 (by decide) ?_
        refine lv_icmp_lt (tgt := 38) hx hb dX11_cut_33 (by decide) (fun c_4 => ?_) (fun c_4 => ?_)
        · skip
          refine lv_aload_n hx hb dX11_cut_38 rfl (lv_at hl 0 rfl) ?_
          refine z_get (T := TX11) (N := 6) (ci := 11) hx hb hts (zi_11 _) hown hK hP 0 rfl rfl 2 (by decide) (hts _ (zm_175 _)) rfl h0_2 dX11_cut_39 ?_
          refine lv_iload_n hx hb dX11_cut_42 rfl (lv_at hl 1 rfl) ?_
          refine z_putN (T := TX0) (N := 18) (ci := 0) hx hb hts (zi_0 _) hown hK hP hD hS 1 rfl rfl 9 (by decide) (hZ.2.1 _ zn_114) rfl rfl rfl rfl dX11_cut_43 (fun H locs f_5 ek_6 ok_7 hP hD hS => ?_)
          have hP : va_P D vwCl [(h0, .inr (11, zf 6 f0)), (ho, .inr (0, zf 18 f_5))] H := hP
          have hD : va_D A [(h0, .inr (11, zf 6 f0)), (ho, .inr (0, zf 18 f_5))] := hD
          refine lv_aload_n hx hb dX11_cut_46 rfl (lv_at hl 0 rfl) ?_
          refine z_get (T := TX11) (N := 6) (ci := 11) hx hb hts (zi_11 _) hown hK hP 0 rfl rfl 2 (by decide) (hts _ (zm_175 _)) rfl h0_2 dX11_cut_47 ?_
          refine lv_iload_n hx hb dX11_cut_50 rfl (lv_at hl 2 rfl) ?_
          refine z_putN (T := TX0) (N := 18) (ci := 0) hx hb hts (zi_0 _) hown hK hP hD hS 1 rfl rfl 10 (by decide) (hZ.2.1 _ zn_115) rfl rfl rfl rfl dX11_cut_51 (fun H locs f_8 ek_9 ok_10 hP hD hS => ?_)
          have hP : va_P D vwCl [(h0, .inr (11, zf 6 f0)), (ho, .inr (0, zf 18 f_8))] H := hP
          have hD : va_D A [(h0, .inr (11, zf 6 f0)), (ho, .inr (0, zf 18 f_8))] := hD
          refine lv_iconst (v := 1) hx hb dX11_cut_54 (by decide) ?_
          refine W.widen (k := 0) (n := 0) (Nat.le_of_ble_eq_true rfl) (Nat.le_of_ble_eq_true rfl) ?_
          exact W.iret (v := 1) hx hb hr (fun t ht hW => ⟨⟨_, (), rfl, by simp [zCut, *], trivial⟩, hS.F ht⟩) hS.2.2 dX11_cut_55
        · skip
          refine lv_iconst (v := (-1)) hx hb dX11_cut_36 (by decide) ?_
          refine W.widen (k := 0) (n := 0) (Nat.le_of_ble_eq_true rfl) (Nat.le_of_ble_eq_true rfl) ?_
          exact W.iret (v := (-1)) hx hb hr (fun t ht hW => ⟨⟨_, (), rfl, by simp [zCut, *], trivial⟩, hS.F ht⟩) hS.2.2 dX11_cut_37

set_option maxHeartbeats 8000000 in
set_option maxRecDepth 100000 in
/--  -/
theorem c_start (l : Launch) (D : va_G) (x : Nat → ClassId) (h0 : Nat) (f0 : Nat → Value) (ho : Nat) (fh : Nat → Value) (sz : Nat) (h0_2 : f0 2 = .ref ho) (h1_12 : fh 12 = .int 0) : Met l yX11_start (.code yX11_start cX11_start 8 (some .int) :: zW) ({ frames := 0, cells := (0), slots := (0), locals := 0 }) (va_Pc [.ref h0] (fun U => U.heap.size = sz ∧ va_P D vwCl [(h0, .inr (11, zf 6 f0)), (ho, .inr (0, zf 18 fh))] U.heap ∧ zK x D U ∧ va_D (fun _ => True) [(h0, .inr (11, zf 6 f0)), (ho, .inr (0, zf 18 fh))])) (va_Qi (fun (r : Int32) (u : Unit) => r = (-3)) (fun u t => True) (va_A [(h0, .inr (11, zf 6 f0)), (ho, .inr (0, zf 18 fh))] sz)) (0) (0) (va_A [(h0, .inr (11, zf 6 f0)), (ho, .inr (0, zf 18 fh))] sz) := by
  refine Met.ofW (cc := cX11_start) (maxL := 8) (ret := (some .int)) (by decide) rfl ?_
  intro p e s m args below meth c s₁ B hml hv
  obtain ⟨rfl, hsz, hP, hZ, hD0⟩ := hv
  have hK := hZ.1
  have hx := B.exec
  have hb := B.bytes
  have hr := B.returns
  have hts := atoms_spec (ws := .code yX11_start cX11_start 8 (some .int) :: zW) B.pre
  have hown : s.vm.findClass RX11 = some m.cls := findClass_of_methodNamed B.named
  have hlocks := B.notSynchronized
  subst hsz
  have hD := hD0.self (sz := s.heap.size)
  generalize hAe : va_A [(h0, .inr (11, zf 6 f0)), (ho, .inr (0, zf 18 fh))] s.heap.size = A at hD ⊢
  have hA : ∀ q : Nat, s.heap.size ≤ q → A q := fun q h => by rw [← hAe]; exact Or.inr h
  have hS : va_S A s.heap s.heap [] := va_S.rf
  have hP : va_P D vwCl [(h0, .inr (11, zf 6 f0)), (ho, .inr (0, zf 18 fh))] s.heap := hP
  have hl := lv_entry ([.ref h0]) (n := 8) (Nat.le_of_ble_eq_true rfl)
  rw [lg_entry_eq]
  generalize (lg_sl ([.ref h0]) ++ List.replicate (8 - (lg_sl ([.ref h0])).length) Slot.unset).toArray = ls at hl ⊢
  have hl : lv_has ls 8 [(0, .ref h0)] := hl
  refine lv_aload_n hx hb dX11_start_0 rfl (lv_at hl 0 rfl) ?_
  refine z_get (T := TX11) (N := 6) (ci := 11) hx hb hts (zi_11 _) hown hK hP 0 rfl rfl 2 (by decide) (hts _ (zm_175 _)) rfl h0_2 dX11_start_1 ?_
  refine z_getN (T := TX0) (N := 18) (ci := 0) hx hb hts (zi_0 _) hown hK hP 1 rfl rfl 12 (by decide) (hZ.2.1 _ zn_30) rfl h1_12 dX11_start_4 ?_
  refine lv_if_ne (tgt := 13) hx hb dX11_start_7 (by decide) (fun c9 => absurd (by decide) c9) (fun _ => ?_)
  refine lv_bipush (v := (-3)) hx hb dX11_start_10 (by decide) ?_
  refine W.widen (k := 0) (n := 0) (Nat.le_of_ble_eq_true rfl) (Nat.le_of_ble_eq_true rfl) ?_
  exact W.iret (v := (-3)) hx hb hr (fun t ht hW => ⟨⟨_, (), rfl, rfl, trivial⟩, hS.F ht⟩) hS.2.2 dX11_start_12

set_option maxHeartbeats 8000000 in
set_option maxRecDepth 100000 in
/--  -/
theorem c_verify (l : Launch) (D : va_G) (x : Nat → ClassId) (h0 : Nat) (f0 : Nat → Value) (ho : Nat) (fh : Nat → Value) (sz : Nat) (h0_2 : f0 2 = .ref ho) (h1_12 : fh 12 = .int 0) (h1_6 : fh 6 = .int 0) : Met l yX11_verify (.code yX11_verify cX11_verify 2 (some .int) :: zW) ({ frames := 0, cells := (0), slots := (0), locals := 0 }) (va_Pc [.ref h0] (fun U => U.heap.size = sz ∧ va_P D vwCl [(h0, .inr (11, zf 6 f0)), (ho, .inr (0, zf 18 fh))] U.heap ∧ zK x D U ∧ va_D (fun _ => True) [(h0, .inr (11, zf 6 f0)), (ho, .inr (0, zf 18 fh))])) (va_Qi (fun (r : Int32) (u : Unit) => r = (-1)) (fun u t => True) (va_A [(h0, .inr (11, zf 6 f0)), (ho, .inr (0, zf 18 fh))] sz)) (0) (0) (va_A [(h0, .inr (11, zf 6 f0)), (ho, .inr (0, zf 18 fh))] sz) := by
  refine Met.ofW (cc := cX11_verify) (maxL := 2) (ret := (some .int)) (by decide) rfl ?_
  intro p e s m args below meth c s₁ B hml hv
  obtain ⟨rfl, hsz, hP, hZ, hD0⟩ := hv
  have hK := hZ.1
  have hx := B.exec
  have hb := B.bytes
  have hr := B.returns
  have hts := atoms_spec (ws := .code yX11_verify cX11_verify 2 (some .int) :: zW) B.pre
  have hown : s.vm.findClass RX11 = some m.cls := findClass_of_methodNamed B.named
  have hlocks := B.notSynchronized
  subst hsz
  have hD := hD0.self (sz := s.heap.size)
  generalize hAe : va_A [(h0, .inr (11, zf 6 f0)), (ho, .inr (0, zf 18 fh))] s.heap.size = A at hD ⊢
  have hA : ∀ q : Nat, s.heap.size ≤ q → A q := fun q h => by rw [← hAe]; exact Or.inr h
  have hS : va_S A s.heap s.heap [] := va_S.rf
  have hP : va_P D vwCl [(h0, .inr (11, zf 6 f0)), (ho, .inr (0, zf 18 fh))] s.heap := hP
  have hl := lv_entry ([.ref h0]) (n := 2) (Nat.le_of_ble_eq_true rfl)
  rw [lg_entry_eq]
  generalize (lg_sl ([.ref h0]) ++ List.replicate (2 - (lg_sl ([.ref h0])).length) Slot.unset).toArray = ls at hl ⊢
  have hl : lv_has ls 2 [(0, .ref h0)] := hl
  refine lv_aload_n hx hb dX11_verify_0 rfl (lv_at hl 0 rfl) ?_
  refine z_get (T := TX11) (N := 6) (ci := 11) hx hb hts (zi_11 _) hown hK hP 0 rfl rfl 2 (by decide) (hts _ (zm_175 _)) rfl h0_2 dX11_verify_1 ?_
  refine z_getN (T := TX0) (N := 18) (ci := 0) hx hb hts (zi_0 _) hown hK hP 1 rfl rfl 12 (by decide) (hZ.2.1 _ zn_30) rfl h1_12 dX11_verify_4 ?_
  refine lv_if_eq (tgt := 13) hx hb dX11_verify_7 (by decide) (fun _ => ?_) (fun c9 => absurd (by decide) c9)
  refine lv_iconst (v := 1) hx hb dX11_verify_13 (by decide) ?_
  refine lv_istore_n (lv' := [(1, .int 1), (0, .ref h0)]) hx hb dX11_verify_14 rfl hl (by decide) rfl (fun ls hl => ?_)
  refine lv_iload_n hx hb dX11_verify_15 rfl (lv_at hl 0 rfl) ?_
  refine lv_aload_n hx hb dX11_verify_16 rfl (lv_at hl 1 rfl) ?_
  refine z_get (T := TX11) (N := 6) (ci := 11) hx hb hts (zi_11 _) hown hK hP 0 rfl rfl 2 (by decide) (hts _ (zm_175 _)) rfl h0_2 dX11_verify_17 ?_
  refine z_getN (T := TX0) (N := 18) (ci := 0) hx hb hts (zi_0 _) hown hK hP 1 rfl rfl 6 (by decide) (hZ.2.1 _ zn_110) rfl h1_6 dX11_verify_20 ?_
  refine lv_icmp_gt (tgt := 45) hx hb dX11_verify_23 (by decide) (fun _ => ?_) (fun c9 => absurd (by decide) c9)
  refine lv_iconst (v := (-1)) hx hb dX11_verify_45 (by decide) ?_
  refine W.widen (k := 0) (n := 0) (Nat.le_of_ble_eq_true rfl) (Nat.le_of_ble_eq_true rfl) ?_
  exact W.iret (v := (-1)) hx hb hr (fun t ht hW => ⟨⟨_, (), rfl, rfl, trivial⟩, hS.F ht⟩) hS.2.2 dX11_verify_46

set_option maxHeartbeats 8000000 in
set_option maxRecDepth 100000 in
/--  -/
theorem c_end (l : Launch) (D : va_G) (x : Nat → ClassId) (n0 : Int32) (h0 : Nat) (f0 : Nat → Value) (ta : Nat) (ft : Nat → Value) (b0 : Nat) (sz : Nat) (h0_0 : f0 0 = .ref ta) (h1_0 : ft 0 = .ref b0) (h1_1 : ft 1 = .int 0) : Met l yX11_end (.code yX11_end cX11_end 2 (some .int) :: zW) ({ frames := 0, cells := (0), slots := (0), locals := 0 }) (va_Pc [.ref h0, .int n0] (fun U => U.heap.size = sz ∧ va_P D vwCl [(h0, .inr (11, zf 6 f0)), (ta, .inr (6, zf 3 ft))] U.heap ∧ zK x D U ∧ va_D (fun _ => True) [(h0, .inr (11, zf 6 f0)), (ta, .inr (6, zf 3 ft))])) (va_Qi (fun (r : Int32) (u : Unit) => r = (zEnd n0)) (fun u t => True) (va_A [(h0, .inr (11, zf 6 f0)), (ta, .inr (6, zf 3 ft))] sz)) (0) (0) (va_A [(h0, .inr (11, zf 6 f0)), (ta, .inr (6, zf 3 ft))] sz) := by
  refine Met.ofW (cc := cX11_end) (maxL := 2) (ret := (some .int)) (by decide) rfl ?_
  intro p e s m args below meth c s₁ B hml hv
  obtain ⟨rfl, hsz, hP, hZ, hD0⟩ := hv
  have hK := hZ.1
  have hx := B.exec
  have hb := B.bytes
  have hr := B.returns
  have hts := atoms_spec (ws := .code yX11_end cX11_end 2 (some .int) :: zW) B.pre
  have hown : s.vm.findClass RX11 = some m.cls := findClass_of_methodNamed B.named
  have hlocks := B.notSynchronized
  subst hsz
  have hD := hD0.self (sz := s.heap.size)
  generalize hAe : va_A [(h0, .inr (11, zf 6 f0)), (ta, .inr (6, zf 3 ft))] s.heap.size = A at hD ⊢
  have hA : ∀ q : Nat, s.heap.size ≤ q → A q := fun q h => by rw [← hAe]; exact Or.inr h
  have hS : va_S A s.heap s.heap [] := va_S.rf
  have hP : va_P D vwCl [(h0, .inr (11, zf 6 f0)), (ta, .inr (6, zf 3 ft))] s.heap := hP
  have hl := lv_entry ([.ref h0, .int n0]) (n := 2) (Nat.le_of_ble_eq_true rfl)
  rw [lg_entry_eq]
  generalize (lg_sl ([.ref h0, .int n0]) ++ List.replicate (2 - (lg_sl ([.ref h0, .int n0])).length) Slot.unset).toArray = ls at hl ⊢
  have hl : lv_has ls 2 [(0, .ref h0), (1, .int n0)] := hl
  refine lv_iload_n hx hb dX11_end_0 rfl (lv_at hl 1 rfl) ?_
  refine lv_if_lt (tgt := 15) hx hb dX11_end_1 (by decide) (fun c_1 => ?_) (fun c_1 => ?_)
  · skip
    refine lv_iconst (v := (-1)) hx hb dX11_end_15 (by decide) ?_
    refine W.widen (k := 0) (n := 0) (Nat.le_of_ble_eq_true rfl) (Nat.le_of_ble_eq_true rfl) ?_
    exact W.iret (v := (-1)) hx hb hr (fun t ht hW => ⟨⟨_, (), rfl, by simp [zEnd, *], trivial⟩, hS.F ht⟩) hS.2.2 dX11_end_16
  · skip
    refine lv_iload_n hx hb dX11_end_4 rfl (lv_at hl 1 rfl) ?_
    refine lv_aload_n hx hb dX11_end_5 rfl (lv_at hl 0 rfl) ?_
    refine z_get (T := TX11) (N := 6) (ci := 11) hx hb hts (zi_11 _) hown hK hP 0 rfl rfl 0 (by decide) (hts _ (zm_172 _)) rfl h0_0 dX11_end_6 ?_
    refine z_getN (T := TX6) (N := 3) (ci := 6) hx hb hts (zi_6 _) hown hK hP 1 rfl rfl 1 (by decide) (hZ.2.1 _ zn_28) rfl h1_1 dX11_end_9 ?_
    refine lv_icmp_le (tgt := 17) hx hb dX11_end_12 (by decide) (fun c_2 => ?_) (fun c_2 => ?_)
    · skip
      refine lv_aload_n hx hb dX11_end_17 rfl (lv_at hl 0 rfl) ?_
      refine z_get (T := TX11) (N := 6) (ci := 11) hx hb hts (zi_11 _) hown hK hP 0 rfl rfl 0 (by decide) (hts _ (zm_172 _)) rfl h0_0 dX11_end_18 ?_
      refine lv_iload_n hx hb dX11_end_21 rfl (lv_at hl 1 rfl) ?_
      refine z_putN (T := TX6) (N := 3) (ci := 6) hx hb hts (zi_6 _) hown hK hP hD hS 1 rfl rfl 1 (by decide) (hZ.2.1 _ zn_28) rfl rfl rfl rfl dX11_end_22 (fun H locs f_3 ek_4 ok_5 hP hD hS => ?_)
      have hP : va_P D vwCl [(h0, .inr (11, zf 6 f0)), (ta, .inr (6, zf 3 f_3))] H := hP
      have hD : va_D A [(h0, .inr (11, zf 6 f0)), (ta, .inr (6, zf 3 f_3))] := hD
      refine lv_iload_n hx hb dX11_end_25 rfl (lv_at hl 1 rfl) ?_
      refine W.widen (k := 0) (n := 0) (Nat.le_of_ble_eq_true rfl) (Nat.le_of_ble_eq_true rfl) ?_
      exact W.iret (v := n0) hx hb hr (fun t ht hW => ⟨⟨_, (), rfl, by simp [zEnd, *], trivial⟩, hS.F ht⟩) hS.2.2 dX11_end_26
    · skip
      refine lv_iconst (v := (-1)) hx hb dX11_end_15 (by decide) ?_
      refine W.widen (k := 0) (n := 0) (Nat.le_of_ble_eq_true rfl) (Nat.le_of_ble_eq_true rfl) ?_
      exact W.iret (v := (-1)) hx hb hr (fun t ht hW => ⟨⟨_, (), rfl, by simp [zEnd, *], trivial⟩, hS.F ht⟩) hS.2.2 dX11_end_16

set_option maxHeartbeats 8000000 in
set_option maxRecDepth 100000 in
/--  -/
theorem c_save (l : Launch) (D : va_G) (x : Nat → ClassId) (n0 : Int32) (h0 : Nat) (f0 : Nat → Value) (ho : Nat) (fh : Nat → Value) (ta : Nat) (ft : Nat → Value) (b0 : Nat) (sz : Nat) (h0_2 : f0 2 = .ref ho) (h0_0 : f0 0 = .ref ta) (h1_12 : fh 12 = .int 0) (h2_0 : ft 0 = .ref b0) (h2_1 : ft 1 = .int 0) : Met l yX11_save (.code yX11_save cX11_save 8 (some .int) :: zW) ({ frames := 1, cells := (0), slots := (0), locals := 20 }) (va_Pc [.ref h0, .int n0] (fun U => U.heap.size = sz ∧ va_P D vwCl [(h0, .inr (11, zf 6 f0)), (ho, .inr (0, zf 18 fh)), (ta, .inr (6, zf 3 ft))] U.heap ∧ zK x D U ∧ va_D (fun _ => True) [(h0, .inr (11, zf 6 f0)), (ho, .inr (0, zf 18 fh)), (ta, .inr (6, zf 3 ft))])) (va_Qi (fun (r : Int32) (u : Unit) => r = (-1)) (fun u t => True) (va_A [(h0, .inr (11, zf 6 f0)), (ho, .inr (0, zf 18 fh)), (ta, .inr (6, zf 3 ft))] sz)) (0) (0) (va_A [(h0, .inr (11, zf 6 f0)), (ho, .inr (0, zf 18 fh)), (ta, .inr (6, zf 3 ft))] sz) := by
  refine Met.ofW (cc := cX11_save) (maxL := 8) (ret := (some .int)) (by decide) rfl ?_
  intro p e s m args below meth c s₁ B hml hv
  obtain ⟨rfl, hsz, hP, hZ, hD0⟩ := hv
  have hK := hZ.1
  have hx := B.exec
  have hb := B.bytes
  have hr := B.returns
  have hts := atoms_spec (ws := .code yX11_save cX11_save 8 (some .int) :: zW) B.pre
  have hown : s.vm.findClass RX11 = some m.cls := findClass_of_methodNamed B.named
  have hlocks := B.notSynchronized
  subst hsz
  have hD := hD0.self (sz := s.heap.size)
  generalize hAe : va_A [(h0, .inr (11, zf 6 f0)), (ho, .inr (0, zf 18 fh)), (ta, .inr (6, zf 3 ft))] s.heap.size = A at hD ⊢
  have hA : ∀ q : Nat, s.heap.size ≤ q → A q := fun q h => by rw [← hAe]; exact Or.inr h
  have hS : va_S A s.heap s.heap [] := va_S.rf
  have hP : va_P D vwCl [(h0, .inr (11, zf 6 f0)), (ho, .inr (0, zf 18 fh)), (ta, .inr (6, zf 3 ft))] s.heap := hP
  have hl := lv_entry ([.ref h0, .int n0]) (n := 8) (Nat.le_of_ble_eq_true rfl)
  rw [lg_entry_eq]
  generalize (lg_sl ([.ref h0, .int n0]) ++ List.replicate (8 - (lg_sl ([.ref h0, .int n0])).length) Slot.unset).toArray = ls at hl ⊢
  have hl : lv_has ls 8 [(0, .ref h0), (1, .int n0)] := hl
  refine lv_aload_n hx hb dX11_save_0 rfl (lv_at hl 0 rfl) ?_
  refine z_get (T := TX11) (N := 6) (ci := 11) hx hb hts (zi_11 _) hown hK hP 0 rfl rfl 2 (by decide) (hts _ (zm_175 _)) rfl h0_2 dX11_save_1 ?_
  refine z_getN (T := TX0) (N := 18) (ci := 0) hx hb hts (zi_0 _) hown hK hP 1 rfl rfl 12 (by decide) (hZ.2.1 _ zn_30) rfl h1_12 dX11_save_4 ?_
  refine lv_if_eq (tgt := 13) hx hb dX11_save_7 (by decide) (fun _ => ?_) (fun c9 => absurd (by decide) c9)
  refine lv_aload_n hx hb dX11_save_13 rfl (lv_at hl 0 rfl) ?_
  refine z_get (T := TX11) (N := 6) (ci := 11) hx hb hts (zi_11 _) hown hK hP 0 rfl rfl 0 (by decide) (hts _ (zm_172 _)) rfl h0_0 dX11_save_14 ?_
  refine z_getN (T := TX6) (N := 3) (ci := 6) hx hb hts (zi_6 _) hown hK hP 2 rfl rfl 1 (by decide) (hZ.2.1 _ zn_28) rfl h2_1 dX11_save_17 ?_
  refine lv_istore_n (lv' := [(2, .int 0), (0, .ref h0), (1, .int n0)]) hx hb dX11_save_20 rfl hl (by decide) rfl (fun ls hl => ?_)
  refine lv_aload_n hx hb dX11_save_21 rfl (lv_at hl 1 rfl) ?_
  refine z_get (T := TX11) (N := 6) (ci := 11) hx hb hts (zi_11 _) hown hK hP 0 rfl rfl 0 (by decide) (hts _ (zm_172 _)) rfl h0_0 dX11_save_22 ?_
  have hPc := hP.sub (ws' := [(ta, .inr (6, zf 3 ft))]) [2] rfl
  have hDc := hD.sub (ws' := [(ta, .inr (6, zf 3 ft))]) [2] (by decide) rfl
  have hFc := va_free (wc := [(ta, .inr (6, zf 3 ft))]) hD hS hA [2] rfl
  have h_2 : 0 + 0 ≤ 0 ∧ 0 + 0 ≤ 0 := by omega
  refine va_callv (va_runVN (As := []) (rest := []) ⟨hx, hb, hml, hown, hts⟩ (c_Row_clear l D x ta ft b0 s.heap.size h2_0) ⟨va_cnB 0 hts (zgood (zm_181 _) rfl) rfl rfl rfl (hZ.2.1 _ zn_31) (hts _ (zm_7 _)) ⟨by decide, by decide, by decide +kernel⟩ ⟨Nat.le_of_ble_eq_true rfl, Nat.le_of_ble_eq_true rfl⟩, hts _ (zm_182 _), hts _ (zm_183 _)⟩ ⟨fun a U g mk q => by obtain ⟨q0, q1, qP, qK, qD⟩ := q; exact ⟨q0, q1, qP, ZK.calling (u := U) zN_ok rfl qK, qD⟩, va_recv hK hPc (ci := 6) (q0 := 0) rfl rfl, fun U hU hW => ⟨rfl, by rw [hU], by rw [hU]; exact hPc, ZK.warm zN_ok hW hZ, hDc.weaken (fun _ _ _ _ => trivial)⟩⟩ rfl rfl hl.1 rfl (lv_room (Nat.le_of_ble_eq_true rfl)) dX11_save_25 h_2) hS (fun q _ h => hFc q h) hFc (fun c0_1 t H1 locs ht hvm hw_1 hB hz1 hk1 hS => ?_)
  obtain ⟨hP1, hD1⟩ := hB
  rw [ht] at hP1
  try dsimp only at hw_1
  obtain ⟨hP, hD⟩ := va_join (wr := [(h0, .inr (11, zf 6 f0)), (ho, .inr (0, zf 18 fh))]) (w1 := [(ta, .inr (6, zf 3 c0_1))]) hP hD [2] [0, 1] rfl rfl (by decide) (by decide) hk1 hFc hP1 hD1
  generalize H1 = H at hP hS ⊢
  have hP : va_P D vwCl [(h0, .inr (11, zf 6 f0)), (ho, .inr (0, zf 18 fh)), (ta, .inr (6, zf 3 c0_1))] H := hP
  have hD : va_D A [(h0, .inr (11, zf 6 f0)), (ho, .inr (0, zf 18 fh)), (ta, .inr (6, zf 3 c0_1))] := hD
  refine W.widen (k := 0) (n := 0) (by omega) (by omega) ?_
  refine lv_iload_n hx hb dX11_save_28 rfl (lv_at hl 2 rfl) ?_
  refine lv_iconst (v := 1) hx hb dX11_save_29 (by decide) ?_
  refine lv_icmp_lt (tgt := 44) hx hb dX11_save_30 (by decide) (fun c_3 => ?_) (fun c_3 => ?_)
  · skip
    refine lv_iconst (v := (-1)) hx hb dX11_save_44 (by decide) ?_
    refine W.widen (k := 0) (n := 0) (Nat.le_of_ble_eq_true rfl) (Nat.le_of_ble_eq_true rfl) ?_
    exact W.iret (v := (-1)) hx hb hr (fun t ht hW => ⟨⟨_, (), rfl, rfl, trivial⟩, hS.F ht⟩) hS.2.2 dX11_save_45
  · skip
    refine lv_iload_n hx hb dX11_save_33 rfl (lv_at hl 2 rfl) ?_
    refine lv_bipush (v := 8) hx hb dX11_save_34 (by decide) ?_
    refine lv_icmp_gt (tgt := 44) hx hb dX11_save_36 (by decide) (fun c_4 => ?_) (fun c_4 => ?_)
    · skip
      refine lv_iconst (v := (-1)) hx hb dX11_save_44 (by decide) ?_
      refine W.widen (k := 0) (n := 0) (Nat.le_of_ble_eq_true rfl) (Nat.le_of_ble_eq_true rfl) ?_
      exact W.iret (v := (-1)) hx hb hr (fun t ht hW => ⟨⟨_, (), rfl, rfl, trivial⟩, hS.F ht⟩) hS.2.2 dX11_save_45
    · skip
      refine lv_iload_n hx hb dX11_save_39 rfl (lv_at hl 2 rfl) ?_
      refine lv_iload_n hx hb dX11_save_40 rfl (lv_at hl 0 rfl) ?_
      refine lv_icmp_le (tgt := 46) hx hb dX11_save_41 (by decide) (fun c9 => absurd c9 ((z_save c_3))) (fun _ => ?_)
      refine lv_iconst (v := (-1)) hx hb dX11_save_44 (by decide) ?_
      refine W.widen (k := 0) (n := 0) (Nat.le_of_ble_eq_true rfl) (Nat.le_of_ble_eq_true rfl) ?_
      exact W.iret (v := (-1)) hx hb hr (fun t ht hW => ⟨⟨_, (), rfl, rfl, trivial⟩, hS.F ht⟩) hS.2.2 dX11_save_45

set_option maxHeartbeats 8000000 in
set_option maxRecDepth 100000 in
/--  -/
theorem c_count (l : Launch) (D : va_G) (x : Nat → ClassId) (n0 : Int32) (h0 : Nat) (f0 : Nat → Value) (ho : Nat) (fh : Nat → Value) (ma : Nat) (fm : Nat → Value) (tg : Nat) (f3 : Nat → Value) (tl : Nat) (f4 : Nat → Value) (co : Nat) (wa : Nat) (f5 : Nat → Value) (sz : Nat) (h0_2 : f0 2 = .ref ho) (h0_3 : f0 3 = .ref ma) (h1_12 : fh 12 = .int 0) (h1_2 : fh 2 = .int 0) (h1_0 : fh 0 = .ref tg) (h1_14 : fh 14 = .int 0) (h1_17 : fh 17 = .ref co) (h1_6 : fh 6 = .int 0) (h1_8 : fh 8 = .int 0) (h1_7 : fh 7 = .ref wa) (h1_15 : fh 15 = .int 0) (h2_1 : fm 1 = .ref tl) (h2_4 : fm 4 = .int 0) (h3_5 : f3 5 = .int 0) (h4_5 : f4 5 = .int 0) (h6_1 : f5 1 = .int 0) : Met l yX11_count (.code yX11_count cX11_count 2 (some .int) :: zW) ({ frames := 1, cells := (0), slots := (0), locals := 22 }) (va_Pc [.ref h0, .int n0] (fun U => U.heap.size = sz ∧ va_P D vwCl [(h0, .inr (11, zf 6 f0)), (ho, .inr (0, zf 18 fh)), (ma, .inr (2, zf 19 fm)), (tg, .inr (9, zf 8 f3)), (tl, .inr (9, zf 8 f4)), (co, .inl (x 0, 5, .inl (fun _ => 0))), (wa, .inr (6, zf 3 f5))] U.heap ∧ zK x D U ∧ va_D (fun _ => True) [(h0, .inr (11, zf 6 f0)), (ho, .inr (0, zf 18 fh)), (ma, .inr (2, zf 19 fm)), (tg, .inr (9, zf 8 f3)), (tl, .inr (9, zf 8 f4)), (co, .inl (x 0, 5, .inl (fun _ => 0))), (wa, .inr (6, zf 3 f5))])) (va_Qi (fun (r : Int32) (u : Unit) => r = (zCount n0)) (fun u t => True) (va_A [(h0, .inr (11, zf 6 f0)), (ho, .inr (0, zf 18 fh)), (ma, .inr (2, zf 19 fm)), (tg, .inr (9, zf 8 f3)), (tl, .inr (9, zf 8 f4)), (co, .inl (x 0, 5, .inl (fun _ => 0))), (wa, .inr (6, zf 3 f5))] sz)) (0) (0) (va_A [(h0, .inr (11, zf 6 f0)), (ho, .inr (0, zf 18 fh)), (ma, .inr (2, zf 19 fm)), (tg, .inr (9, zf 8 f3)), (tl, .inr (9, zf 8 f4)), (co, .inl (x 0, 5, .inl (fun _ => 0))), (wa, .inr (6, zf 3 f5))] sz) := by
  refine Met.ofW (cc := cX11_count) (maxL := 2) (ret := (some .int)) (by decide) rfl ?_
  intro p e s m args below meth c s₁ B hml hv
  obtain ⟨rfl, hsz, hP, hZ, hD0⟩ := hv
  have hK := hZ.1
  have hx := B.exec
  have hb := B.bytes
  have hr := B.returns
  have hts := atoms_spec (ws := .code yX11_count cX11_count 2 (some .int) :: zW) B.pre
  have hown : s.vm.findClass RX11 = some m.cls := findClass_of_methodNamed B.named
  have hlocks := B.notSynchronized
  subst hsz
  have hD := hD0.self (sz := s.heap.size)
  generalize hAe : va_A [(h0, .inr (11, zf 6 f0)), (ho, .inr (0, zf 18 fh)), (ma, .inr (2, zf 19 fm)), (tg, .inr (9, zf 8 f3)), (tl, .inr (9, zf 8 f4)), (co, .inl (x 0, 5, .inl (fun _ => 0))), (wa, .inr (6, zf 3 f5))] s.heap.size = A at hD ⊢
  have hA : ∀ q : Nat, s.heap.size ≤ q → A q := fun q h => by rw [← hAe]; exact Or.inr h
  have hS : va_S A s.heap s.heap [] := va_S.rf
  have hP : va_P D vwCl [(h0, .inr (11, zf 6 f0)), (ho, .inr (0, zf 18 fh)), (ma, .inr (2, zf 19 fm)), (tg, .inr (9, zf 8 f3)), (tl, .inr (9, zf 8 f4)), (co, .inl (x 0, 5, .inl (fun _ => 0))), (wa, .inr (6, zf 3 f5))] s.heap := hP
  have hl := lv_entry ([.ref h0, .int n0]) (n := 2) (Nat.le_of_ble_eq_true rfl)
  rw [lg_entry_eq]
  generalize (lg_sl ([.ref h0, .int n0]) ++ List.replicate (2 - (lg_sl ([.ref h0, .int n0])).length) Slot.unset).toArray = ls at hl ⊢
  have hl : lv_has ls 2 [(0, .ref h0), (1, .int n0)] := hl
  refine lv_aload_n hx hb dX11_count_0 rfl (lv_at hl 0 rfl) ?_
  refine z_get (T := TX11) (N := 6) (ci := 11) hx hb hts (zi_11 _) hown hK hP 0 rfl rfl 2 (by decide) (hts _ (zm_175 _)) rfl h0_2 dX11_count_1 ?_
  refine z_getN (T := TX0) (N := 18) (ci := 0) hx hb hts (zi_0 _) hown hK hP 1 rfl rfl 12 (by decide) (hZ.2.1 _ zn_30) rfl h1_12 dX11_count_4 ?_
  refine lv_if_eq (tgt := 13) hx hb dX11_count_7 (by decide) (fun _ => ?_) (fun c9 => absurd (by decide) c9)
  refine lv_iload_n hx hb dX11_count_13 rfl (lv_at hl 1 rfl) ?_
  by_cases c_1 : n0.toInt < 0 ∨ 14 < n0.toInt
  · skip
    refine lv_tableOut (tgt := 227) hx hb dX11_count_14 c_1 (by decide) ?_
    refine lv_iconst (v := (-1)) hx hb dX11_count_227 (by decide) ?_
    refine W.widen (k := 0) (n := 0) (Nat.le_of_ble_eq_true rfl) (Nat.le_of_ble_eq_true rfl) ?_
    exact W.iret (v := (-1)) hx hb hr (fun t ht hW => ⟨⟨_, (), rfl, by simp [zCount, *], trivial⟩, hS.F ht⟩) hS.2.2 dX11_count_228
  · skip
    have hv : n0.toInt = 0 ∨ n0.toInt = 1 ∨ n0.toInt = 2 ∨ n0.toInt = 3 ∨ n0.toInt = 4 ∨ n0.toInt = 5 ∨ n0.toInt = 6 ∨ n0.toInt = 7 ∨ n0.toInt = 8 ∨ n0.toInt = 9 ∨ n0.toInt = 10 ∨ n0.toInt = 11 ∨ n0.toInt = 12 ∨ n0.toInt = 13 ∨ n0.toInt = 14 := by omega
    rcases hv with hv | hv | hv | hv | hv | hv | hv | hv | hv | hv | hv | hv | hv | hv | hv
    · skip
      refine lv_tableIn (off := 74) (tgt := 88) hx hb dX11_count_14 (by omega) (by omega) (by rw [hv]; rfl) (by decide) ?_
      refine lv_aload_n hx hb dX11_count_88 rfl (lv_at hl 0 rfl) ?_
      refine z_get (T := TX11) (N := 6) (ci := 11) hx hb hts (zi_11 _) hown hK hP 0 rfl rfl 2 (by decide) (hts _ (zm_175 _)) rfl h0_2 dX11_count_89 ?_
      refine z_getN (T := TX0) (N := 18) (ci := 0) hx hb hts (zi_0 _) hown hK hP 1 rfl rfl 2 (by decide) (hZ.2.1 _ zn_39) rfl h1_2 dX11_count_92 ?_
      refine W.widen (k := 0) (n := 0) (Nat.le_of_ble_eq_true rfl) (Nat.le_of_ble_eq_true rfl) ?_
      exact W.iret (v := 0) hx hb hr (fun t ht hW => ⟨⟨_, (), rfl, by simp [zCount, *], trivial⟩, hS.F ht⟩) hS.2.2 dX11_count_95
    · skip
      refine lv_tableIn (off := 82) (tgt := 96) hx hb dX11_count_14 (by omega) (by omega) (by rw [hv]; rfl) (by decide) ?_
      refine lv_aload_n hx hb dX11_count_96 rfl (lv_at hl 0 rfl) ?_
      refine z_get (T := TX11) (N := 6) (ci := 11) hx hb hts (zi_11 _) hown hK hP 0 rfl rfl 2 (by decide) (hts _ (zm_175 _)) rfl h0_2 dX11_count_97 ?_
      refine z_getN (T := TX0) (N := 18) (ci := 0) hx hb hts (zi_0 _) hown hK hP 1 rfl rfl 0 (by decide) (hZ.2.1 _ zn_103) rfl h1_0 dX11_count_100 ?_
      refine z_getN (T := TX9) (N := 8) (ci := 9) hx hb hts (zi_9 _) hown hK hP 3 rfl rfl 5 (by decide) (hZ.2.1 _ zn_104) rfl h3_5 dX11_count_103 ?_
      refine W.widen (k := 0) (n := 0) (Nat.le_of_ble_eq_true rfl) (Nat.le_of_ble_eq_true rfl) ?_
      exact W.iret (v := 0) hx hb hr (fun t ht hW => ⟨⟨_, (), rfl, by simp [zCount, *], trivial⟩, hS.F ht⟩) hS.2.2 dX11_count_106
    · skip
      refine lv_tableIn (off := 93) (tgt := 107) hx hb dX11_count_14 (by omega) (by omega) (by rw [hv]; rfl) (by decide) ?_
      refine lv_aload_n hx hb dX11_count_107 rfl (lv_at hl 0 rfl) ?_
      refine z_get (T := TX11) (N := 6) (ci := 11) hx hb hts (zi_11 _) hown hK hP 0 rfl rfl 3 (by decide) (hts _ (zm_177 _)) rfl h0_3 dX11_count_108 ?_
      refine z_getN (T := TX2) (N := 19) (ci := 2) hx hb hts (zi_2 _) hown hK hP 2 rfl rfl 1 (by decide) (hZ.2.1 _ zn_105) rfl h2_1 dX11_count_111 ?_
      refine z_getN (T := TX9) (N := 8) (ci := 9) hx hb hts (zi_9 _) hown hK hP 4 rfl rfl 5 (by decide) (hZ.2.1 _ zn_104) rfl h4_5 dX11_count_114 ?_
      refine W.widen (k := 0) (n := 0) (Nat.le_of_ble_eq_true rfl) (Nat.le_of_ble_eq_true rfl) ?_
      exact W.iret (v := 0) hx hb hr (fun t ht hW => ⟨⟨_, (), rfl, by simp [zCount, *], trivial⟩, hS.F ht⟩) hS.2.2 dX11_count_117
    · skip
      refine lv_tableIn (off := 104) (tgt := 118) hx hb dX11_count_14 (by omega) (by omega) (by rw [hv]; rfl) (by decide) ?_
      refine lv_aload_n hx hb dX11_count_118 rfl (lv_at hl 0 rfl) ?_
      refine z_get (T := TX11) (N := 6) (ci := 11) hx hb hts (zi_11 _) hown hK hP 0 rfl rfl 3 (by decide) (hts _ (zm_177 _)) rfl h0_3 dX11_count_119 ?_
      refine z_getN (T := TX2) (N := 19) (ci := 2) hx hb hts (zi_2 _) hown hK hP 2 rfl rfl 4 (by decide) (hZ.2.1 _ zn_106) rfl h2_4 dX11_count_122 ?_
      refine W.widen (k := 0) (n := 0) (Nat.le_of_ble_eq_true rfl) (Nat.le_of_ble_eq_true rfl) ?_
      exact W.iret (v := 0) hx hb hr (fun t ht hW => ⟨⟨_, (), rfl, by simp [zCount, *], trivial⟩, hS.F ht⟩) hS.2.2 dX11_count_125
    · skip
      refine lv_tableIn (off := 112) (tgt := 126) hx hb dX11_count_14 (by omega) (by omega) (by rw [hv]; rfl) (by decide) ?_
      refine lv_aload_n hx hb dX11_count_126 rfl (lv_at hl 0 rfl) ?_
      refine z_get (T := TX11) (N := 6) (ci := 11) hx hb hts (zi_11 _) hown hK hP 0 rfl rfl 3 (by decide) (hts _ (zm_177 _)) rfl h0_3 dX11_count_127 ?_
      have hPc := hP.sub (ws' := [(ma, .inr (2, zf 19 fm))]) [2] rfl
      have hDc := hD.sub (ws' := [(ma, .inr (2, zf 19 fm))]) [2] (by decide) rfl
      have hFc := va_free (wc := [(ma, .inr (2, zf 19 fm))]) hD hS hA [2] rfl
      have h_3 : 0 + 0 ≤ 0 ∧ 0 + 0 ≤ 0 := by omega
      refine va_calli (va_runVN (As := []) (rest := []) ⟨hx, hb, hml, hown, hts⟩ (c_livingCount0 l D x ma fm s.heap.size h2_4) ⟨va_cnB 0 hts (zgood (zm_293 _) rfl) rfl rfl rfl (hZ.2.1 _ zn_107) (hts _ (zm_146 _)) ⟨by decide, by decide, by decide +kernel⟩ ⟨Nat.le_of_ble_eq_true rfl, Nat.le_of_ble_eq_true rfl⟩, hts _ (zm_294 _), hts _ (zm_295 _)⟩ ⟨fun a U g mk q => by obtain ⟨q0, q1, qP, qK, qD⟩ := q; exact ⟨q0, q1, qP, ZK.calling (u := U) zN_ok rfl qK, qD⟩, va_recv hK hPc (ci := 2) (q0 := 0) rfl rfl, fun U hU hW => ⟨rfl, by rw [hU], by rw [hU]; exact hPc, ZK.warm zN_ok hW hZ, hDc.weaken (fun _ _ _ _ => trivial)⟩⟩ rfl rfl hl.1 rfl (lv_room (Nat.le_of_ble_eq_true rfl)) dX11_count_130 h_3) hS (fun q _ h => hFc q h) hFc (fun r_2 u t H1 locs ht hvm hw_2 hB hz1 hk1 hS => ?_)
      obtain ⟨hP1, hD1⟩ := hB
      rw [ht] at hP1
      try dsimp only at hw_2
      obtain ⟨hP, hD⟩ := va_join (wr := [(h0, .inr (11, zf 6 f0)), (ho, .inr (0, zf 18 fh)), (tg, .inr (9, zf 8 f3)), (tl, .inr (9, zf 8 f4)), (co, .inl (x 0, 5, .inl (fun _ => 0))), (wa, .inr (6, zf 3 f5))]) (w1 := [(ma, .inr (2, zf 19 fm))]) hP hD [2] [0, 1, 3, 4, 5, 6] rfl rfl (by decide) (by decide) hk1 hFc hP1 hD1
      generalize H1 = H at hP hS ⊢
      have hP : va_P D vwCl [(h0, .inr (11, zf 6 f0)), (ho, .inr (0, zf 18 fh)), (tg, .inr (9, zf 8 f3)), (tl, .inr (9, zf 8 f4)), (co, .inl (x 0, 5, .inl (fun _ => 0))), (wa, .inr (6, zf 3 f5)), (ma, .inr (2, zf 19 fm))] H := hP
      have hD : va_D A [(h0, .inr (11, zf 6 f0)), (ho, .inr (0, zf 18 fh)), (tg, .inr (9, zf 8 f3)), (tl, .inr (9, zf 8 f4)), (co, .inl (x 0, 5, .inl (fun _ => 0))), (wa, .inr (6, zf 3 f5)), (ma, .inr (2, zf 19 fm))] := hD
      refine W.widen (k := 0) (n := 0) (by omega) (by omega) ?_
      obtain rfl : r_2 = 0 := hw_2
      refine W.widen (k := 0) (n := 0) (Nat.le_of_ble_eq_true rfl) (Nat.le_of_ble_eq_true rfl) ?_
      exact W.iret (v := 0) hx hb hr (fun t ht hW => ⟨⟨_, (), rfl, by simp [zCount, *], trivial⟩, hS.F ht⟩) hS.2.2 dX11_count_133
    · skip
      refine lv_tableIn (off := 120) (tgt := 134) hx hb dX11_count_14 (by omega) (by omega) (by rw [hv]; rfl) (by decide) ?_
      refine lv_aload_n hx hb dX11_count_134 rfl (lv_at hl 0 rfl) ?_
      refine z_get (T := TX11) (N := 6) (ci := 11) hx hb hts (zi_11 _) hown hK hP 0 rfl rfl 2 (by decide) (hts _ (zm_175 _)) rfl h0_2 dX11_count_135 ?_
      refine z_getN (T := TX0) (N := 18) (ci := 0) hx hb hts (zi_0 _) hown hK hP 1 rfl rfl 14 (by decide) (hZ.2.1 _ zn_108) rfl h1_14 dX11_count_138 ?_
      refine W.widen (k := 0) (n := 0) (Nat.le_of_ble_eq_true rfl) (Nat.le_of_ble_eq_true rfl) ?_
      exact W.iret (v := 0) hx hb hr (fun t ht hW => ⟨⟨_, (), rfl, by simp [zCount, *], trivial⟩, hS.F ht⟩) hS.2.2 dX11_count_141
    · skip
      refine lv_tableIn (off := 128) (tgt := 142) hx hb dX11_count_14 (by omega) (by omega) (by rw [hv]; rfl) (by decide) ?_
      refine lv_aload_n hx hb dX11_count_142 rfl (lv_at hl 0 rfl) ?_
      refine z_get (T := TX11) (N := 6) (ci := 11) hx hb hts (zi_11 _) hown hK hP 0 rfl rfl 2 (by decide) (hts _ (zm_175 _)) rfl h0_2 dX11_count_143 ?_
      refine z_getN (T := TX0) (N := 18) (ci := 0) hx hb hts (zi_0 _) hown hK hP 1 rfl rfl 17 (by decide) (hZ.2.1 _ zn_109) rfl h1_17 dX11_count_146 ?_
      refine lv_iconst (v := 0) hx hb dX11_count_149 (by decide) ?_
      refine z_iald hx hb hK hP 5 0 rfl rfl (z_in (by decide)) rfl dX11_count_150 ?_
      refine W.widen (k := 0) (n := 0) (Nat.le_of_ble_eq_true rfl) (Nat.le_of_ble_eq_true rfl) ?_
      exact W.iret (v := 0) hx hb hr (fun t ht hW => ⟨⟨_, (), rfl, by simp [zCount, *], trivial⟩, hS.F ht⟩) hS.2.2 dX11_count_151
    · skip
      refine lv_tableIn (off := 138) (tgt := 152) hx hb dX11_count_14 (by omega) (by omega) (by rw [hv]; rfl) (by decide) ?_
      refine lv_aload_n hx hb dX11_count_152 rfl (lv_at hl 0 rfl) ?_
      refine z_get (T := TX11) (N := 6) (ci := 11) hx hb hts (zi_11 _) hown hK hP 0 rfl rfl 2 (by decide) (hts _ (zm_175 _)) rfl h0_2 dX11_count_153 ?_
      refine z_getN (T := TX0) (N := 18) (ci := 0) hx hb hts (zi_0 _) hown hK hP 1 rfl rfl 17 (by decide) (hZ.2.1 _ zn_109) rfl h1_17 dX11_count_156 ?_
      refine lv_iconst (v := 1) hx hb dX11_count_159 (by decide) ?_
      refine z_iald hx hb hK hP 5 0 rfl rfl (z_in (by decide)) rfl dX11_count_160 ?_
      refine W.widen (k := 0) (n := 0) (Nat.le_of_ble_eq_true rfl) (Nat.le_of_ble_eq_true rfl) ?_
      exact W.iret (v := 0) hx hb hr (fun t ht hW => ⟨⟨_, (), rfl, by simp [zCount, *], trivial⟩, hS.F ht⟩) hS.2.2 dX11_count_161
    · skip
      refine lv_tableIn (off := 148) (tgt := 162) hx hb dX11_count_14 (by omega) (by omega) (by rw [hv]; rfl) (by decide) ?_
      refine lv_aload_n hx hb dX11_count_162 rfl (lv_at hl 0 rfl) ?_
      refine z_get (T := TX11) (N := 6) (ci := 11) hx hb hts (zi_11 _) hown hK hP 0 rfl rfl 2 (by decide) (hts _ (zm_175 _)) rfl h0_2 dX11_count_163 ?_
      refine z_getN (T := TX0) (N := 18) (ci := 0) hx hb hts (zi_0 _) hown hK hP 1 rfl rfl 17 (by decide) (hZ.2.1 _ zn_109) rfl h1_17 dX11_count_166 ?_
      refine lv_iconst (v := 2) hx hb dX11_count_169 (by decide) ?_
      refine z_iald hx hb hK hP 5 0 rfl rfl (z_in (by decide)) rfl dX11_count_170 ?_
      refine W.widen (k := 0) (n := 0) (Nat.le_of_ble_eq_true rfl) (Nat.le_of_ble_eq_true rfl) ?_
      exact W.iret (v := 0) hx hb hr (fun t ht hW => ⟨⟨_, (), rfl, by simp [zCount, *], trivial⟩, hS.F ht⟩) hS.2.2 dX11_count_171
    · skip
      refine lv_tableIn (off := 158) (tgt := 172) hx hb dX11_count_14 (by omega) (by omega) (by rw [hv]; rfl) (by decide) ?_
      refine lv_aload_n hx hb dX11_count_172 rfl (lv_at hl 0 rfl) ?_
      refine z_get (T := TX11) (N := 6) (ci := 11) hx hb hts (zi_11 _) hown hK hP 0 rfl rfl 2 (by decide) (hts _ (zm_175 _)) rfl h0_2 dX11_count_173 ?_
      refine z_getN (T := TX0) (N := 18) (ci := 0) hx hb hts (zi_0 _) hown hK hP 1 rfl rfl 17 (by decide) (hZ.2.1 _ zn_109) rfl h1_17 dX11_count_176 ?_
      refine lv_iconst (v := 3) hx hb dX11_count_179 (by decide) ?_
      refine z_iald hx hb hK hP 5 0 rfl rfl (z_in (by decide)) rfl dX11_count_180 ?_
      refine W.widen (k := 0) (n := 0) (Nat.le_of_ble_eq_true rfl) (Nat.le_of_ble_eq_true rfl) ?_
      exact W.iret (v := 0) hx hb hr (fun t ht hW => ⟨⟨_, (), rfl, by simp [zCount, *], trivial⟩, hS.F ht⟩) hS.2.2 dX11_count_181
    · skip
      refine lv_tableIn (off := 168) (tgt := 182) hx hb dX11_count_14 (by omega) (by omega) (by rw [hv]; rfl) (by decide) ?_
      refine lv_aload_n hx hb dX11_count_182 rfl (lv_at hl 0 rfl) ?_
      refine z_get (T := TX11) (N := 6) (ci := 11) hx hb hts (zi_11 _) hown hK hP 0 rfl rfl 2 (by decide) (hts _ (zm_175 _)) rfl h0_2 dX11_count_183 ?_
      refine z_getN (T := TX0) (N := 18) (ci := 0) hx hb hts (zi_0 _) hown hK hP 1 rfl rfl 17 (by decide) (hZ.2.1 _ zn_109) rfl h1_17 dX11_count_186 ?_
      refine lv_iconst (v := 4) hx hb dX11_count_189 (by decide) ?_
      refine z_iald hx hb hK hP 5 0 rfl rfl (z_in (by decide)) rfl dX11_count_190 ?_
      refine W.widen (k := 0) (n := 0) (Nat.le_of_ble_eq_true rfl) (Nat.le_of_ble_eq_true rfl) ?_
      exact W.iret (v := 0) hx hb hr (fun t ht hW => ⟨⟨_, (), rfl, by simp [zCount, *], trivial⟩, hS.F ht⟩) hS.2.2 dX11_count_191
    · skip
      refine lv_tableIn (off := 178) (tgt := 192) hx hb dX11_count_14 (by omega) (by omega) (by rw [hv]; rfl) (by decide) ?_
      refine lv_aload_n hx hb dX11_count_192 rfl (lv_at hl 0 rfl) ?_
      refine z_get (T := TX11) (N := 6) (ci := 11) hx hb hts (zi_11 _) hown hK hP 0 rfl rfl 2 (by decide) (hts _ (zm_175 _)) rfl h0_2 dX11_count_193 ?_
      refine z_getN (T := TX0) (N := 18) (ci := 0) hx hb hts (zi_0 _) hown hK hP 1 rfl rfl 6 (by decide) (hZ.2.1 _ zn_110) rfl h1_6 dX11_count_196 ?_
      refine W.widen (k := 0) (n := 0) (Nat.le_of_ble_eq_true rfl) (Nat.le_of_ble_eq_true rfl) ?_
      exact W.iret (v := 0) hx hb hr (fun t ht hW => ⟨⟨_, (), rfl, by simp [zCount, *], trivial⟩, hS.F ht⟩) hS.2.2 dX11_count_199
    · skip
      refine lv_tableIn (off := 186) (tgt := 200) hx hb dX11_count_14 (by omega) (by omega) (by rw [hv]; rfl) (by decide) ?_
      refine lv_aload_n hx hb dX11_count_200 rfl (lv_at hl 0 rfl) ?_
      refine z_get (T := TX11) (N := 6) (ci := 11) hx hb hts (zi_11 _) hown hK hP 0 rfl rfl 2 (by decide) (hts _ (zm_175 _)) rfl h0_2 dX11_count_201 ?_
      refine z_getN (T := TX0) (N := 18) (ci := 0) hx hb hts (zi_0 _) hown hK hP 1 rfl rfl 8 (by decide) (hZ.2.1 _ zn_111) rfl h1_8 dX11_count_204 ?_
      refine W.widen (k := 0) (n := 0) (Nat.le_of_ble_eq_true rfl) (Nat.le_of_ble_eq_true rfl) ?_
      exact W.iret (v := 0) hx hb hr (fun t ht hW => ⟨⟨_, (), rfl, by simp [zCount, *], trivial⟩, hS.F ht⟩) hS.2.2 dX11_count_207
    · skip
      refine lv_tableIn (off := 194) (tgt := 208) hx hb dX11_count_14 (by omega) (by omega) (by rw [hv]; rfl) (by decide) ?_
      refine lv_aload_n hx hb dX11_count_208 rfl (lv_at hl 0 rfl) ?_
      refine z_get (T := TX11) (N := 6) (ci := 11) hx hb hts (zi_11 _) hown hK hP 0 rfl rfl 2 (by decide) (hts _ (zm_175 _)) rfl h0_2 dX11_count_209 ?_
      refine z_getN (T := TX0) (N := 18) (ci := 0) hx hb hts (zi_0 _) hown hK hP 1 rfl rfl 7 (by decide) (hZ.2.1 _ zn_41) rfl h1_7 dX11_count_212 ?_
      refine z_getN (T := TX6) (N := 3) (ci := 6) hx hb hts (zi_6 _) hown hK hP 6 rfl rfl 1 (by decide) (hZ.2.1 _ zn_28) rfl h6_1 dX11_count_215 ?_
      refine W.widen (k := 0) (n := 0) (Nat.le_of_ble_eq_true rfl) (Nat.le_of_ble_eq_true rfl) ?_
      exact W.iret (v := 0) hx hb hr (fun t ht hW => ⟨⟨_, (), rfl, by simp [zCount, *], trivial⟩, hS.F ht⟩) hS.2.2 dX11_count_218
    · skip
      refine lv_tableIn (off := 205) (tgt := 219) hx hb dX11_count_14 (by omega) (by omega) (by rw [hv]; rfl) (by decide) ?_
      refine lv_aload_n hx hb dX11_count_219 rfl (lv_at hl 0 rfl) ?_
      refine z_get (T := TX11) (N := 6) (ci := 11) hx hb hts (zi_11 _) hown hK hP 0 rfl rfl 2 (by decide) (hts _ (zm_175 _)) rfl h0_2 dX11_count_220 ?_
      refine z_getN (T := TX0) (N := 18) (ci := 0) hx hb hts (zi_0 _) hown hK hP 1 rfl rfl 15 (by decide) (hZ.2.1 _ zn_54) rfl h1_15 dX11_count_223 ?_
      refine W.widen (k := 0) (n := 0) (Nat.le_of_ble_eq_true rfl) (Nat.le_of_ble_eq_true rfl) ?_
      exact W.iret (v := 0) hx hb hr (fun t ht hW => ⟨⟨_, (), rfl, by simp [zCount, *], trivial⟩, hS.F ht⟩) hS.2.2 dX11_count_226
