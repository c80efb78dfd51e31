theorem dX12_isLiving_0 : decode cX12_isLiving 0 = .ok (.iload_n 1, 1) := by decide +kernel
theorem dX12_isLiving_1 : decode cX12_isLiving 1 = .ok (.ifCond .lt 24, 3) := by decide +kernel
theorem dX12_isLiving_4 : decode cX12_isLiving 4 = .ok (.iload_n 1, 1) := by decide +kernel
theorem dX12_isLiving_5 : decode cX12_isLiving 5 = .ok (.aload_n 0, 1) := by decide +kernel
theorem dX12_isLiving_6 : decode cX12_isLiving 6 = .ok (.getfield 1257, 3) := by decide +kernel
theorem dX12_isLiving_9 : decode cX12_isLiving 9 = .ok (.if_icmp .ge 16, 3) := by decide +kernel
theorem dX12_isLiving_25 : decode cX12_isLiving 25 = .ok (.iconst 0, 1) := by decide +kernel
theorem dX12_isLiving_26 : decode cX12_isLiving 26 = .ok (.ireturn, 1) := by decide +kernel
theorem dX12_living_0 : decode cX12_living 0 = .ok (.iconst 0, 1) := by decide +kernel
theorem dX12_living_1 : decode cX12_living 1 = .ok (.istore_n 1, 1) := by decide +kernel
theorem dX12_living_2 : decode cX12_living 2 = .ok (.iconst 0, 1) := by decide +kernel
theorem dX12_living_3 : decode cX12_living 3 = .ok (.istore_n 2, 1) := by decide +kernel
theorem dX12_living_4 : decode cX12_living 4 = .ok (.iload_n 2, 1) := by decide +kernel
theorem dX12_living_5 : decode cX12_living 5 = .ok (.bipush 6, 2) := by decide +kernel
theorem dX12_living_7 : decode cX12_living 7 = .ok (.if_icmp .ge 26, 3) := by decide +kernel
theorem dX12_living_10 : decode cX12_living 10 = .ok (.iload_n 1, 1) := by decide +kernel
theorem dX12_living_11 : decode cX12_living 11 = .ok (.aload_n 0, 1) := by decide +kernel
theorem dX12_living_12 : decode cX12_living 12 = .ok (.getfield 238, 3) := by decide +kernel
theorem dX12_living_15 : decode cX12_living 15 = .ok (.iload_n 2, 1) := by decide +kernel
theorem dX12_living_16 : decode cX12_living 16 = .ok (.iaload, 1) := by decide +kernel
theorem dX12_living_17 : decode cX12_living 17 = .ok (.ifCond .lt 7, 3) := by decide +kernel
theorem dX12_living_24 : decode cX12_living 24 = .ok (.iconst 0, 1) := by decide +kernel
theorem dX12_living_25 : decode cX12_living 25 = .ok (.iadd, 1) := by decide +kernel
theorem dX12_living_26 : decode cX12_living 26 = .ok (.istore_n 1, 1) := by decide +kernel
theorem dX12_living_27 : decode cX12_living 27 = .ok (.iinc 2 1, 3) := by decide +kernel
theorem dX12_living_30 : decode cX12_living 30 = .ok (.goto (-26), 3) := by decide +kernel
theorem dX12_living_33 : decode cX12_living 33 = .ok (.iload_n 1, 1) := by decide +kernel
theorem dX12_living_34 : decode cX12_living 34 = .ok (.ireturn, 1) := by decide +kernel
theorem dX12_end_0 : decode cX12_end 0 = .ok (.iload_n 1, 1) := by decide +kernel
theorem dX12_end_1 : decode cX12_end 1 = .ok (.ifCond .lt 11, 3) := by decide +kernel
theorem dX12_end_4 : decode cX12_end 4 = .ok (.iload_n 1, 1) := by decide +kernel
theorem dX12_end_5 : decode cX12_end 5 = .ok (.aload_n 0, 1) := by decide +kernel
theorem dX12_end_6 : decode cX12_end 6 = .ok (.getfield 1530, 3) := by decide +kernel
theorem dX12_end_9 : decode cX12_end 9 = .ok (.if_icmp .le 5, 3) := by decide +kernel
theorem dX12_end_12 : decode cX12_end 12 = .ok (.iconst (-1), 1) := by decide +kernel
theorem dX12_end_13 : decode cX12_end 13 = .ok (.ireturn, 1) := by decide +kernel
theorem dX12_end_14 : decode cX12_end 14 = .ok (.aload_n 0, 1) := by decide +kernel
theorem dX12_end_15 : decode cX12_end 15 = .ok (.iload_n 1, 1) := by decide +kernel
theorem dX12_end_16 : decode cX12_end 16 = .ok (.putfield 1530, 3) := by decide +kernel
theorem dX12_end_19 : decode cX12_end 19 = .ok (.iload_n 1, 1) := by decide +kernel
theorem dX12_end_20 : decode cX12_end 20 = .ok (.ireturn, 1) := by decide +kernel
theorem dX12_time_0 : decode cX12_time 0 = .ok (.aload_n 0, 1) := by decide +kernel
theorem dX12_time_1 : decode cX12_time 1 = .ok (.getfield 1533, 3) := by decide +kernel
theorem dX12_time_4 : decode cX12_time 4 = .ok (.ifCond .eq 6, 3) := by decide +kernel
theorem dX12_time_10 : decode cX12_time 10 = .ok (.iload_n 1, 1) := by decide +kernel
theorem dX12_time_11 : decode cX12_time 11 = .ok (.aload_n 0, 1) := by decide +kernel
theorem dX12_time_12 : decode cX12_time 12 = .ok (.getfield 1327, 3) := by decide +kernel
theorem dX12_time_15 : decode cX12_time 15 = .ok (.if_icmp .lt 10, 3) := by decide +kernel
theorem dX12_time_18 : decode cX12_time 18 = .ok (.iload_n 1, 1) := by decide +kernel
theorem dX12_time_19 : decode cX12_time 19 = .ok (.ldc_w 1556, 3) := by decide +kernel
theorem dX12_time_22 : decode cX12_time 22 = .ok (.if_icmp .le 5, 3) := by decide +kernel
theorem dX12_time_25 : decode cX12_time 25 = .ok (.iconst (-1), 1) := by decide +kernel
theorem dX12_time_26 : decode cX12_time 26 = .ok (.ireturn, 1) := by decide +kernel
theorem dX12_time_27 : decode cX12_time 27 = .ok (.iload_n 1, 1) := by decide +kernel
theorem dX12_time_28 : decode cX12_time 28 = .ok (.aload_n 0, 1) := by decide +kernel
theorem dX12_time_29 : decode cX12_time 29 = .ok (.getfield 1327, 3) := by decide +kernel
theorem dX12_time_32 : decode cX12_time 32 = .ok (.isub, 1) := by decide +kernel
theorem dX12_time_33 : decode cX12_time 33 = .ok (.istore_n 2, 1) := by decide +kernel
theorem dX12_time_34 : decode cX12_time 34 = .ok (.aload_n 0, 1) := by decide +kernel
theorem dX12_time_35 : decode cX12_time 35 = .ok (.iload_n 1, 1) := by decide +kernel
theorem dX12_time_36 : decode cX12_time 36 = .ok (.putfield 1327, 3) := by decide +kernel
theorem dX12_time_39 : decode cX12_time 39 = .ok (.iload_n 2, 1) := by decide +kernel
theorem dX12_time_40 : decode cX12_time 40 = .ok (.ireturn, 1) := by decide +kernel
theorem dX12_seed_0 : decode cX12_seed 0 = .ok (.aload_n 0, 1) := by decide +kernel
theorem dX12_seed_1 : decode cX12_seed 1 = .ok (.getfield 1533, 3) := by decide +kernel
theorem dX12_seed_4 : decode cX12_seed 4 = .ok (.ifCond .eq 6, 3) := by decide +kernel
theorem dX12_seed_10 : decode cX12_seed 10 = .ok (.aload_n 0, 1) := by decide +kernel
theorem dX12_seed_11 : decode cX12_seed 11 = .ok (.lload_n 1, 1) := by decide +kernel
theorem dX12_seed_12 : decode cX12_seed 12 = .ok (.putfield 1557, 3) := by decide +kernel
theorem dX12_seed_15 : decode cX12_seed 15 = .ok (.iconst 1, 1) := by decide +kernel
theorem dX12_seed_16 : decode cX12_seed 16 = .ok (.ireturn, 1) := by decide +kernel
theorem dX12_turns_0 : decode cX12_turns 0 = .ok (.aload_n 0, 1) := by decide +kernel
theorem dX12_turns_1 : decode cX12_turns 1 = .ok (.getfield 1533, 3) := by decide +kernel
theorem dX12_turns_4 : decode cX12_turns 4 = .ok (.ifCond .eq 6, 3) := by decide +kernel
theorem dX12_turns_10 : decode cX12_turns 10 = .ok (.iload_n 1, 1) := by decide +kernel
theorem dX12_turns_11 : decode cX12_turns 11 = .ok (.iconst 1, 1) := by decide +kernel
theorem dX12_turns_12 : decode cX12_turns 12 = .ok (.if_icmp .lt 10, 3) := by decide +kernel
theorem dX12_turns_15 : decode cX12_turns 15 = .ok (.iload_n 1, 1) := by decide +kernel
theorem dX12_turns_16 : decode cX12_turns 16 = .ok (.sipush 400, 3) := by decide +kernel
theorem dX12_turns_19 : decode cX12_turns 19 = .ok (.if_icmp .le 5, 3) := by decide +kernel
theorem dX12_turns_22 : decode cX12_turns 22 = .ok (.iconst (-1), 1) := by decide +kernel
theorem dX12_turns_23 : decode cX12_turns 23 = .ok (.ireturn, 1) := by decide +kernel
theorem dX12_turns_24 : decode cX12_turns 24 = .ok (.iconst 0, 1) := by decide +kernel
theorem dX12_turns_25 : decode cX12_turns 25 = .ok (.istore_n 2, 1) := by decide +kernel
theorem dX12_turns_26 : decode cX12_turns 26 = .ok (.iconst 0, 1) := by decide +kernel
theorem dX12_turns_27 : decode cX12_turns 27 = .ok (.istore_n 3, 1) := by decide +kernel
theorem dX12_turns_28 : decode cX12_turns 28 = .ok (.iload_n 3, 1) := by decide +kernel
theorem dX12_turns_29 : decode cX12_turns 29 = .ok (.iload_n 1, 1) := by decide +kernel
theorem dX12_turns_30 : decode cX12_turns 30 = .ok (.if_icmp .ge 141, 3) := by decide +kernel
theorem dX12_turns_33 : decode cX12_turns 33 = .ok (.aload_n 0, 1) := by decide +kernel
theorem dX12_turns_34 : decode cX12_turns 34 = .ok (.invokevirtual 1560, 3) := by decide +kernel
theorem dX12_turns_37 : decode cX12_turns 37 = .ok (.ifCond .le 134, 3) := by decide +kernel
theorem dX12_turns_171 : decode cX12_turns 171 = .ok (.iload_n 2, 1) := by decide +kernel
theorem dX12_turns_172 : decode cX12_turns 172 = .ok (.ireturn, 1) := by decide +kernel
theorem dX12_halt_0 : decode cX12_halt 0 = .ok (.aload_n 0, 1) := by decide +kernel
theorem dX12_halt_1 : decode cX12_halt 1 = .ok (.getfield 1533, 3) := by decide +kernel
theorem dX12_halt_4 : decode cX12_halt 4 = .ok (.ifCond .eq 6, 3) := by decide +kernel
theorem dX12_halt_10 : decode cX12_halt 10 = .ok (.iload_n 1, 1) := by decide +kernel
theorem dX12_halt_11 : decode cX12_halt 11 = .ok (.ifCond .lt 11, 3) := by decide +kernel
theorem dX12_halt_14 : decode cX12_halt 14 = .ok (.iload_n 1, 1) := by decide +kernel
theorem dX12_halt_15 : decode cX12_halt 15 = .ok (.aload_n 0, 1) := by decide +kernel
theorem dX12_halt_16 : decode cX12_halt 16 = .ok (.getfield 1257, 3) := by decide +kernel
theorem dX12_halt_19 : decode cX12_halt 19 = .ok (.if_icmp .lt 5, 3) := by decide +kernel
theorem dX12_halt_22 : decode cX12_halt 22 = .ok (.iconst (-1), 1) := by decide +kernel
theorem dX12_halt_23 : decode cX12_halt 23 = .ok (.ireturn, 1) := by decide +kernel
theorem dX12_take_0 : decode cX12_take 0 = .ok (.aload_n 0, 1) := by decide +kernel
theorem dX12_take_1 : decode cX12_take 1 = .ok (.getfield 1533, 3) := by decide +kernel
theorem dX12_take_4 : decode cX12_take 4 = .ok (.ifCond .eq 6, 3) := by decide +kernel
theorem dX12_take_10 : decode cX12_take 10 = .ok (.iload_n 1, 1) := by decide +kernel
theorem dX12_take_11 : decode cX12_take 11 = .ok (.ifCond .lt 11, 3) := by decide +kernel
theorem dX12_take_14 : decode cX12_take 14 = .ok (.iload_n 1, 1) := by decide +kernel
theorem dX12_take_15 : decode cX12_take 15 = .ok (.aload_n 0, 1) := by decide +kernel
theorem dX12_take_16 : decode cX12_take 16 = .ok (.getfield 1257, 3) := by decide +kernel
theorem dX12_take_19 : decode cX12_take 19 = .ok (.if_icmp .lt 5, 3) := by decide +kernel
theorem dX12_take_22 : decode cX12_take 22 = .ok (.iconst (-1), 1) := by decide +kernel
theorem dX12_take_23 : decode cX12_take 23 = .ok (.ireturn, 1) := by decide +kernel
theorem dX12_code_0 : decode cX12_code 0 = .ok (.aload_n 0, 1) := by decide +kernel
theorem dX12_code_1 : decode cX12_code 1 = .ok (.getfield 1533, 3) := by decide +kernel
theorem dX12_code_4 : decode cX12_code 4 = .ok (.ifCond .eq 6, 3) := by decide +kernel
theorem dX12_code_10 : decode cX12_code 10 = .ok (.iload_n 1, 1) := by decide +kernel
theorem dX12_code_11 : decode cX12_code 11 = .ok (.ifCond .lt 11, 3) := by decide +kernel
theorem dX12_code_14 : decode cX12_code 14 = .ok (.iload_n 1, 1) := by decide +kernel
theorem dX12_code_15 : decode cX12_code 15 = .ok (.aload_n 0, 1) := by decide +kernel
theorem dX12_code_16 : decode cX12_code 16 = .ok (.getfield 1257, 3) := by decide +kernel
theorem dX12_code_19 : decode cX12_code 19 = .ok (.if_icmp .lt 5, 3) := by decide +kernel
theorem dX12_code_22 : decode cX12_code 22 = .ok (.iconst (-1), 1) := by decide +kernel
theorem dX12_code_23 : decode cX12_code 23 = .ok (.ireturn, 1) := by decide +kernel
theorem dX12_state_0 : decode cX12_state 0 = .ok (.aload_n 0, 1) := by decide +kernel
theorem dX12_state_1 : decode cX12_state 1 = .ok (.getfield 1533, 3) := by decide +kernel
theorem dX12_state_4 : decode cX12_state 4 = .ok (.ifCond .eq 6, 3) := by decide +kernel
theorem dX12_state_10 : decode cX12_state 10 = .ok (.iload_n 1, 1) := by decide +kernel
theorem dX12_state_11 : decode cX12_state 11 = .ok (.ifCond .lt 21, 3) := by decide +kernel
theorem dX12_state_14 : decode cX12_state 14 = .ok (.iload_n 1, 1) := by decide +kernel
theorem dX12_state_15 : decode cX12_state 15 = .ok (.aload_n 0, 1) := by decide +kernel
theorem dX12_state_16 : decode cX12_state 16 = .ok (.getfield 1257, 3) := by decide +kernel
theorem dX12_state_19 : decode cX12_state 19 = .ok (.if_icmp .ge 13, 3) := by decide +kernel
theorem dX12_state_32 : decode cX12_state 32 = .ok (.iconst (-1), 1) := by decide +kernel
theorem dX12_state_33 : decode cX12_state 33 = .ok (.ireturn, 1) := by decide +kernel
theorem dX12_written_0 : decode cX12_written 0 = .ok (.aload_n 0, 1) := by decide +kernel
theorem dX12_written_1 : decode cX12_written 1 = .ok (.getfield 1533, 3) := by decide +kernel
theorem dX12_written_4 : decode cX12_written 4 = .ok (.ifCond .eq 6, 3) := by decide +kernel
theorem dX12_written_10 : decode cX12_written 10 = .ok (.iload_n 1, 1) := by decide +kernel
theorem dX12_written_11 : decode cX12_written 11 = .ok (.ifCond .lt 45, 3) := by decide +kernel
theorem dX12_written_14 : decode cX12_written 14 = .ok (.iload_n 1, 1) := by decide +kernel
theorem dX12_written_15 : decode cX12_written 15 = .ok (.aload_n 0, 1) := by decide +kernel
theorem dX12_written_16 : decode cX12_written 16 = .ok (.getfield 1257, 3) := by decide +kernel
theorem dX12_written_19 : decode cX12_written 19 = .ok (.if_icmp .ge 37, 3) := by decide +kernel
theorem dX12_written_56 : decode cX12_written 56 = .ok (.iconst 0, 1) := by decide +kernel
theorem dX12_written_57 : decode cX12_written 57 = .ok (.istore_n 3, 1) := by decide +kernel
theorem dX12_written_58 : decode cX12_written 58 = .ok (.iload_n 3, 1) := by decide +kernel
theorem dX12_written_59 : decode cX12_written 59 = .ok (.ifCond .eq 22, 3) := by decide +kernel
theorem dX12_written_81 : decode cX12_written 81 = .ok (.iconst (-1), 1) := by decide +kernel
theorem dX12_written_82 : decode cX12_written 82 = .ok (.ireturn, 1) := by decide +kernel
theorem dX12_level__0 : decode cX12_level_ 0 = .ok (.aload_n 0, 1) := by decide +kernel
theorem dX12_level__1 : decode cX12_level_ 1 = .ok (.getfield 1533, 3) := by decide +kernel
theorem dX12_level__4 : decode cX12_level_ 4 = .ok (.ifCond .eq 6, 3) := by decide +kernel
theorem dX12_level__10 : decode cX12_level_ 10 = .ok (.aload_n 0, 1) := by decide +kernel
theorem dX12_level__11 : decode cX12_level_ 11 = .ok (.iload_n 1, 1) := by decide +kernel
theorem dX12_level__12 : decode cX12_level_ 12 = .ok (.invokevirtual 1553, 3) := by decide +kernel
theorem dX12_level__15 : decode cX12_level_ 15 = .ok (.ifCond .eq 31, 3) := by decide +kernel
theorem dX12_level__46 : decode cX12_level_ 46 = .ok (.iconst (-1), 1) := by decide +kernel
theorem dX12_level__47 : decode cX12_level_ 47 = .ok (.ireturn, 1) := by decide +kernel
theorem dX12_tell_0 : decode cX12_tell 0 = .ok (.aload_n 0, 1) := by decide +kernel
theorem dX12_tell_1 : decode cX12_tell 1 = .ok (.getfield 1533, 3) := by decide +kernel
theorem dX12_tell_4 : decode cX12_tell 4 = .ok (.ifCond .eq 6, 3) := by decide +kernel
theorem dX12_tell_10 : decode cX12_tell 10 = .ok (.aload_n 0, 1) := by decide +kernel
theorem dX12_tell_11 : decode cX12_tell 11 = .ok (.getfield 1530, 3) := by decide +kernel
theorem dX12_tell_14 : decode cX12_tell 14 = .ok (.istore_n 2, 1) := by decide +kernel
theorem dX12_tell_15 : decode cX12_tell 15 = .ok (.aload_n 0, 1) := by decide +kernel
theorem dX12_tell_16 : decode cX12_tell 16 = .ok (.iconst 0, 1) := by decide +kernel
theorem dX12_tell_17 : decode cX12_tell 17 = .ok (.putfield 1530, 3) := by decide +kernel
theorem dX12_tell_20 : decode cX12_tell 20 = .ok (.aload_n 0, 1) := by decide +kernel
theorem dX12_tell_21 : decode cX12_tell 21 = .ok (.iload_n 1, 1) := by decide +kernel
theorem dX12_tell_22 : decode cX12_tell 22 = .ok (.invokevirtual 1553, 3) := by decide +kernel
theorem dX12_tell_25 : decode cX12_tell 25 = .ok (.ifCond .ne 5, 3) := by decide +kernel
theorem dX12_tell_28 : decode cX12_tell 28 = .ok (.iconst (-1), 1) := by decide +kernel
theorem dX12_tell_29 : decode cX12_tell 29 = .ok (.ireturn, 1) := by decide +kernel
theorem dX12_result_0 : decode cX12_result 0 = .ok (.iload_n 1, 1) := by decide +kernel
theorem dX12_result_1 : decode cX12_result 1 = .ok (.ifCond .lt 24, 3) := by decide +kernel
theorem dX12_result_4 : decode cX12_result 4 = .ok (.iload_n 1, 1) := by decide +kernel
theorem dX12_result_5 : decode cX12_result 5 = .ok (.aload_n 0, 1) := by decide +kernel
theorem dX12_result_6 : decode cX12_result 6 = .ok (.getfield 1527, 3) := by decide +kernel
theorem dX12_result_9 : decode cX12_result 9 = .ok (.if_icmp .ge 16, 3) := by decide +kernel
theorem dX12_result_25 : decode cX12_result 25 = .ok (.iconst (-1), 1) := by decide +kernel
theorem dX12_result_26 : decode cX12_result 26 = .ok (.ireturn, 1) := by decide +kernel
theorem dX12_lock___0 : decode cX12_lock__ 0 = .ok (.aload_n 0, 1) := by decide +kernel
theorem dX12_lock___1 : decode cX12_lock__ 1 = .ok (.getfield 1533, 3) := by decide +kernel
theorem dX12_lock___4 : decode cX12_lock__ 4 = .ok (.ifCond .eq 6, 3) := by decide +kernel
theorem dX12_lock___10 : decode cX12_lock__ 10 = .ok (.iload_n 1, 1) := by decide +kernel
theorem dX12_lock___11 : decode cX12_lock__ 11 = .ok (.ifCond .lt 20, 3) := by decide +kernel
theorem dX12_lock___14 : decode cX12_lock__ 14 = .ok (.iload_n 1, 1) := by decide +kernel
theorem dX12_lock___15 : decode cX12_lock__ 15 = .ok (.aload_n 0, 1) := by decide +kernel
theorem dX12_lock___16 : decode cX12_lock__ 16 = .ok (.getfield 1186, 3) := by decide +kernel
theorem dX12_lock___19 : decode cX12_lock__ 19 = .ok (.if_icmp .ge 12, 3) := by decide +kernel
theorem dX12_lock___31 : decode cX12_lock__ 31 = .ok (.iconst (-1), 1) := by decide +kernel
theorem dX12_lock___32 : decode cX12_lock__ 32 = .ok (.ireturn, 1) := by decide +kernel
theorem dX12_sound_0 : decode cX12_sound 0 = .ok (.aload_n 0, 1) := by decide +kernel
theorem dX12_sound_1 : decode cX12_sound 1 = .ok (.getfield 1533, 3) := by decide +kernel
theorem dX12_sound_4 : decode cX12_sound 4 = .ok (.ifCond .eq 8, 3) := by decide +kernel
theorem dX12_sound_12 : decode cX12_sound 12 = .ok (.iconst 1, 1) := by decide +kernel
theorem dX12_sound_13 : decode cX12_sound 13 = .ok (.ireturn, 1) := by decide +kernel
theorem dX12_sync_0 : decode cX12_sync 0 = .ok (.aload_n 0, 1) := by decide +kernel
theorem dX12_sync_1 : decode cX12_sync 1 = .ok (.getfield 1533, 3) := by decide +kernel
theorem dX12_sync_4 : decode cX12_sync 4 = .ok (.ifCond .eq 6, 3) := by decide +kernel
theorem dX12_sync_10 : decode cX12_sync 10 = .ok (.iconst 0, 1) := by decide +kernel
theorem dX12_sync_11 : decode cX12_sync 11 = .ok (.istore_n 1, 1) := by decide +kernel
theorem dX12_sync_12 : decode cX12_sync 12 = .ok (.iconst 0, 1) := by decide +kernel
theorem dX12_sync_13 : decode cX12_sync 13 = .ok (.istore_n 2, 1) := by decide +kernel
theorem dX12_sync_14 : decode cX12_sync 14 = .ok (.aload_n 0, 1) := by decide +kernel
theorem dX12_sync_15 : decode cX12_sync 15 = .ok (.getfield 951, 3) := by decide +kernel
theorem dX12_sync_18 : decode cX12_sync 18 = .ok (.istore_n 3, 1) := by decide +kernel
theorem dX12_sync_19 : decode cX12_sync 19 = .ok (.iload_n 2, 1) := by decide +kernel
theorem dX12_sync_20 : decode cX12_sync 20 = .ok (.aload_n 0, 1) := by decide +kernel
theorem dX12_sync_21 : decode cX12_sync 21 = .ok (.getfield 948, 3) := by decide +kernel
theorem dX12_sync_24 : decode cX12_sync 24 = .ok (.if_icmp .ge 316, 3) := by decide +kernel
theorem dX12_sync_340 : decode cX12_sync 340 = .ok (.aload_n 0, 1) := by decide +kernel
theorem dX12_sync_341 : decode cX12_sync 341 = .ok (.dup, 1) := by decide +kernel
theorem dX12_sync_342 : decode cX12_sync 342 = .ok (.getfield 951, 3) := by decide +kernel
theorem dX12_sync_345 : decode cX12_sync 345 = .ok (.iload_n 1, 1) := by decide +kernel
theorem dX12_sync_346 : decode cX12_sync 346 = .ok (.iadd, 1) := by decide +kernel
theorem dX12_sync_347 : decode cX12_sync 347 = .ok (.putfield 951, 3) := by decide +kernel
theorem dX12_sync_350 : decode cX12_sync 350 = .ok (.aload_n 0, 1) := by decide +kernel
theorem dX12_sync_351 : decode cX12_sync 351 = .ok (.iconst 0, 1) := by decide +kernel
theorem dX12_sync_352 : decode cX12_sync 352 = .ok (.putfield 948, 3) := by decide +kernel
theorem dX12_sync_355 : decode cX12_sync 355 = .ok (.aload_n 0, 1) := by decide +kernel
theorem dX12_sync_356 : decode cX12_sync 356 = .ok (.iconst 0, 1) := by decide +kernel
theorem dX12_sync_357 : decode cX12_sync 357 = .ok (.putfield 972, 3) := by decide +kernel
theorem dX12_sync_360 : decode cX12_sync 360 = .ok (.iload_n 1, 1) := by decide +kernel
theorem dX12_sync_361 : decode cX12_sync 361 = .ok (.ireturn, 1) := by decide +kernel
theorem dX12_cut_0 : decode cX12_cut 0 = .ok (.aload_n 0, 1) := by decide +kernel
theorem dX12_cut_1 : decode cX12_cut 1 = .ok (.getfield 1533, 3) := by decide +kernel
theorem dX12_cut_4 : decode cX12_cut 4 = .ok (.ifCond .eq 6, 3) := by decide +kernel
theorem dX12_cut_10 : decode cX12_cut 10 = .ok (.iload_n 1, 1) := by decide +kernel
theorem dX12_cut_11 : decode cX12_cut 11 = .ok (.iconst (-1), 1) := by decide +kernel
theorem dX12_cut_12 : decode cX12_cut 12 = .ok (.if_icmp .lt 21, 3) := by decide +kernel
theorem dX12_cut_15 : decode cX12_cut 15 = .ok (.iload_n 1, 1) := by decide +kernel
theorem dX12_cut_16 : decode cX12_cut 16 = .ok (.sipush 2000, 3) := by decide +kernel
theorem dX12_cut_19 : decode cX12_cut 19 = .ok (.if_icmp .gt 14, 3) := by decide +kernel
theorem dX12_cut_22 : decode cX12_cut 22 = .ok (.iload_n 2, 1) := by decide +kernel
theorem dX12_cut_23 : decode cX12_cut 23 = .ok (.ifCond .lt 10, 3) := by decide +kernel
theorem dX12_cut_26 : decode cX12_cut 26 = .ok (.iload_n 2, 1) := by decide +kernel
theorem dX12_cut_27 : decode cX12_cut 27 = .ok (.sipush 255, 3) := by decide +kernel
theorem dX12_cut_30 : decode cX12_cut 30 = .ok (.if_icmp .le 5, 3) := by decide +kernel
theorem dX12_cut_33 : decode cX12_cut 33 = .ok (.iconst (-1), 1) := by decide +kernel
theorem dX12_cut_34 : decode cX12_cut 34 = .ok (.ireturn, 1) := by decide +kernel
theorem dX12_cut_35 : decode cX12_cut 35 = .ok (.aload_n 0, 1) := by decide +kernel
theorem dX12_cut_36 : decode cX12_cut 36 = .ok (.iload_n 1, 1) := by decide +kernel
theorem dX12_cut_37 : decode cX12_cut 37 = .ok (.putfield 459, 3) := by decide +kernel
theorem dX12_cut_40 : decode cX12_cut 40 = .ok (.aload_n 0, 1) := by decide +kernel
theorem dX12_cut_41 : decode cX12_cut 41 = .ok (.iload_n 2, 1) := by decide +kernel
theorem dX12_cut_42 : decode cX12_cut 42 = .ok (.putfield 1592, 3) := by decide +kernel
theorem dX12_cut_45 : decode cX12_cut 45 = .ok (.iconst 1, 1) := by decide +kernel
theorem dX12_cut_46 : decode cX12_cut 46 = .ok (.ireturn, 1) := by decide +kernel
theorem dX12_start_0 : decode cX12_start 0 = .ok (.aload_n 0, 1) := by decide +kernel
theorem dX12_start_1 : decode cX12_start 1 = .ok (.getfield 1533, 3) := by decide +kernel
theorem dX12_start_4 : decode cX12_start 4 = .ok (.ifCond .ne 6, 3) := by decide +kernel
theorem dX12_start_7 : decode cX12_start 7 = .ok (.bipush (-3), 2) := by decide +kernel
theorem dX12_start_9 : decode cX12_start 9 = .ok (.ireturn, 1) := by decide +kernel
theorem dX12_verify_0 : decode cX12_verify 0 = .ok (.aload_n 0, 1) := by decide +kernel
theorem dX12_verify_1 : decode cX12_verify 1 = .ok (.getfield 1533, 3) := by decide +kernel
theorem dX12_verify_4 : decode cX12_verify 4 = .ok (.ifCond .eq 6, 3) := by decide +kernel
theorem dX12_verify_10 : decode cX12_verify 10 = .ok (.iconst 1, 1) := by decide +kernel
theorem dX12_verify_11 : decode cX12_verify 11 = .ok (.istore_n 1, 1) := by decide +kernel
theorem dX12_verify_12 : decode cX12_verify 12 = .ok (.iload_n 1, 1) := by decide +kernel
theorem dX12_verify_13 : decode cX12_verify 13 = .ok (.aload_n 0, 1) := by decide +kernel
theorem dX12_verify_14 : decode cX12_verify 14 = .ok (.getfield 951, 3) := by decide +kernel
theorem dX12_verify_17 : decode cX12_verify 17 = .ok (.if_icmp .gt 19, 3) := by decide +kernel
theorem dX12_verify_36 : decode cX12_verify 36 = .ok (.iconst (-1), 1) := by decide +kernel
theorem dX12_verify_37 : decode cX12_verify 37 = .ok (.ireturn, 1) := by decide +kernel
theorem dX12_save_0 : decode cX12_save 0 = .ok (.aload_n 0, 1) := by decide +kernel
theorem dX12_save_1 : decode cX12_save 1 = .ok (.getfield 1533, 3) := by decide +kernel
theorem dX12_save_4 : decode cX12_save 4 = .ok (.ifCond .eq 6, 3) := by decide +kernel
theorem dX12_save_10 : decode cX12_save 10 = .ok (.aload_n 0, 1) := by decide +kernel
theorem dX12_save_11 : decode cX12_save 11 = .ok (.getfield 1530, 3) := by decide +kernel
theorem dX12_save_14 : decode cX12_save 14 = .ok (.istore_n 2, 1) := by decide +kernel
theorem dX12_save_15 : decode cX12_save 15 = .ok (.aload_n 0, 1) := by decide +kernel
theorem dX12_save_16 : decode cX12_save 16 = .ok (.iconst 0, 1) := by decide +kernel
theorem dX12_save_17 : decode cX12_save 17 = .ok (.putfield 1530, 3) := by decide +kernel
theorem dX12_save_20 : decode cX12_save 20 = .ok (.iload_n 1, 1) := by decide +kernel
theorem dX12_save_21 : decode cX12_save 21 = .ok (.iconst 1, 1) := by decide +kernel
theorem dX12_save_22 : decode cX12_save 22 = .ok (.if_icmp .lt 14, 3) := by decide +kernel
theorem dX12_save_25 : decode cX12_save 25 = .ok (.iload_n 1, 1) := by decide +kernel
theorem dX12_save_26 : decode cX12_save 26 = .ok (.bipush 8, 2) := by decide +kernel
theorem dX12_save_28 : decode cX12_save 28 = .ok (.if_icmp .gt 8, 3) := by decide +kernel
theorem dX12_save_31 : decode cX12_save 31 = .ok (.iload_n 1, 1) := by decide +kernel
theorem dX12_save_32 : decode cX12_save 32 = .ok (.iload_n 2, 1) := by decide +kernel
theorem dX12_save_33 : decode cX12_save 33 = .ok (.if_icmp .le 5, 3) := by decide +kernel
theorem dX12_save_36 : decode cX12_save 36 = .ok (.iconst (-1), 1) := by decide +kernel
theorem dX12_save_37 : decode cX12_save 37 = .ok (.ireturn, 1) := by decide +kernel
theorem dX12_countRows_0 : decode cX12_countRows 0 = .ok (.iconst 0, 1) := by decide +kernel
theorem dX12_countRows_1 : decode cX12_countRows 1 = .ok (.istore_n 2, 1) := by decide +kernel
theorem dX12_countRows_2 : decode cX12_countRows 2 = .ok (.iconst 0, 1) := by decide +kernel
theorem dX12_countRows_3 : decode cX12_countRows 3 = .ok (.istore_n 3, 1) := by decide +kernel
theorem dX12_countRows_4 : decode cX12_countRows 4 = .ok (.iload_n 3, 1) := by decide +kernel
theorem dX12_countRows_5 : decode cX12_countRows 5 = .ok (.aload_n 0, 1) := by decide +kernel
theorem dX12_countRows_6 : decode cX12_countRows 6 = .ok (.getfield 599, 3) := by decide +kernel
theorem dX12_countRows_9 : decode cX12_countRows 9 = .ok (.if_icmp .ge 36, 3) := by decide +kernel
theorem dX12_countRows_45 : decode cX12_countRows 45 = .ok (.iload_n 2, 1) := by decide +kernel
theorem dX12_countRows_46 : decode cX12_countRows 46 = .ok (.ireturn, 1) := by decide +kernel
theorem dX12_count_0 : decode cX12_count 0 = .ok (.aload_n 0, 1) := by decide +kernel
theorem dX12_count_1 : decode cX12_count 1 = .ok (.getfield 1533, 3) := by decide +kernel
theorem dX12_count_4 : decode cX12_count 4 = .ok (.ifCond .eq 6, 3) := by decide +kernel
theorem dX12_count_10 : decode cX12_count 10 = .ok (.iload_n 1, 1) := by decide +kernel
theorem dX12_count_11 : decode cX12_count 11 = .ok (.tableswitch 150 0 14 #[73, 78, 84, 90, 95, 100, 105, 110, 115, 120, 125, 130, 135, 140, 145], 73) := by decide +kernel
theorem dX12_count_84 : decode cX12_count 84 = .ok (.aload_n 0, 1) := by decide +kernel
theorem dX12_count_85 : decode cX12_count 85 = .ok (.getfield 838, 3) := by decide +kernel
theorem dX12_count_88 : decode cX12_count 88 = .ok (.ireturn, 1) := by decide +kernel
theorem dX12_count_89 : decode cX12_count 89 = .ok (.aload_n 0, 1) := by decide +kernel
theorem dX12_count_90 : decode cX12_count 90 = .ok (.iconst 1, 1) := by decide +kernel
theorem dX12_count_91 : decode cX12_count 91 = .ok (.invokevirtual 614, 3) := by decide +kernel
theorem dX12_count_94 : decode cX12_count 94 = .ok (.ireturn, 1) := by decide +kernel
theorem dX12_count_95 : decode cX12_count 95 = .ok (.aload_n 0, 1) := by decide +kernel
theorem dX12_count_96 : decode cX12_count 96 = .ok (.iconst 0, 1) := by decide +kernel
theorem dX12_count_97 : decode cX12_count 97 = .ok (.invokevirtual 614, 3) := by decide +kernel
theorem dX12_count_100 : decode cX12_count 100 = .ok (.ireturn, 1) := by decide +kernel
theorem dX12_count_101 : decode cX12_count 101 = .ok (.aload_n 0, 1) := by decide +kernel
theorem dX12_count_102 : decode cX12_count 102 = .ok (.getfield 1257, 3) := by decide +kernel
theorem dX12_count_105 : decode cX12_count 105 = .ok (.ireturn, 1) := by decide +kernel
theorem dX12_count_106 : decode cX12_count 106 = .ok (.aload_n 0, 1) := by decide +kernel
theorem dX12_count_107 : decode cX12_count 107 = .ok (.invokevirtual 1560, 3) := by decide +kernel
theorem dX12_count_110 : decode cX12_count 110 = .ok (.ireturn, 1) := by decide +kernel
theorem dX12_count_111 : decode cX12_count 111 = .ok (.aload_n 0, 1) := by decide +kernel
theorem dX12_count_112 : decode cX12_count 112 = .ok (.getfield 1186, 3) := by decide +kernel
theorem dX12_count_115 : decode cX12_count 115 = .ok (.ireturn, 1) := by decide +kernel
theorem dX12_count_116 : decode cX12_count 116 = .ok (.aload_n 0, 1) := by decide +kernel
theorem dX12_count_117 : decode cX12_count 117 = .ok (.getfield 1563, 3) := by decide +kernel
theorem dX12_count_120 : decode cX12_count 120 = .ok (.ireturn, 1) := by decide +kernel
theorem dX12_count_121 : decode cX12_count 121 = .ok (.aload_n 0, 1) := by decide +kernel
theorem dX12_count_122 : decode cX12_count 122 = .ok (.getfield 1569, 3) := by decide +kernel
theorem dX12_count_125 : decode cX12_count 125 = .ok (.ireturn, 1) := by decide +kernel
theorem dX12_count_126 : decode cX12_count 126 = .ok (.aload_n 0, 1) := by decide +kernel
theorem dX12_count_127 : decode cX12_count 127 = .ok (.getfield 1348, 3) := by decide +kernel
theorem dX12_count_130 : decode cX12_count 130 = .ok (.ireturn, 1) := by decide +kernel
theorem dX12_count_131 : decode cX12_count 131 = .ok (.aload_n 0, 1) := by decide +kernel
theorem dX12_count_132 : decode cX12_count 132 = .ok (.getfield 1351, 3) := by decide +kernel
theorem dX12_count_135 : decode cX12_count 135 = .ok (.ireturn, 1) := by decide +kernel
theorem dX12_count_136 : decode cX12_count 136 = .ok (.aload_n 0, 1) := by decide +kernel
theorem dX12_count_137 : decode cX12_count 137 = .ok (.getfield 1360, 3) := by decide +kernel
theorem dX12_count_140 : decode cX12_count 140 = .ok (.ireturn, 1) := by decide +kernel
theorem dX12_count_141 : decode cX12_count 141 = .ok (.aload_n 0, 1) := by decide +kernel
theorem dX12_count_142 : decode cX12_count 142 = .ok (.getfield 951, 3) := by decide +kernel
theorem dX12_count_145 : decode cX12_count 145 = .ok (.ireturn, 1) := by decide +kernel
theorem dX12_count_146 : decode cX12_count 146 = .ok (.aload_n 0, 1) := by decide +kernel
theorem dX12_count_147 : decode cX12_count 147 = .ok (.getfield 972, 3) := by decide +kernel
theorem dX12_count_150 : decode cX12_count 150 = .ok (.ireturn, 1) := by decide +kernel
theorem dX12_count_151 : decode cX12_count 151 = .ok (.aload_n 0, 1) := by decide +kernel
theorem dX12_count_152 : decode cX12_count 152 = .ok (.getfield 948, 3) := by decide +kernel
theorem dX12_count_155 : decode cX12_count 155 = .ok (.ireturn, 1) := by decide +kernel
theorem dX12_count_156 : decode cX12_count 156 = .ok (.aload_n 0, 1) := by decide +kernel
theorem dX12_count_157 : decode cX12_count 157 = .ok (.getfield 1327, 3) := by decide +kernel
theorem dX12_count_160 : decode cX12_count 160 = .ok (.ireturn, 1) := by decide +kernel
theorem dX12_count_161 : decode cX12_count 161 = .ok (.iconst (-1), 1) := by decide +kernel
theorem dX12_count_162 : decode cX12_count 162 = .ok (.ireturn, 1) := by decide +kernel
theorem dX12_look_0 : decode cX12_look 0 = .ok (.aload_n 0, 1) := by decide +kernel
theorem dX12_look_1 : decode cX12_look 1 = .ok (.getfield 1533, 3) := by decide +kernel
theorem dX12_look_4 : decode cX12_look 4 = .ok (.ifCond .eq 6, 3) := by decide +kernel
theorem dX12_look_10 : decode cX12_look 10 = .ok (.aload_n 0, 1) := by decide +kernel
theorem dX12_look_11 : decode cX12_look 11 = .ok (.getfield 1530, 3) := by decide +kernel
theorem dX12_look_14 : decode cX12_look 14 = .ok (.istore_n 3, 1) := by decide +kernel
theorem dX12_look_15 : decode cX12_look 15 = .ok (.aload_n 0, 1) := by decide +kernel
theorem dX12_look_16 : decode cX12_look 16 = .ok (.iconst 0, 1) := by decide +kernel
theorem dX12_look_17 : decode cX12_look 17 = .ok (.putfield 1530, 3) := by decide +kernel
theorem dX12_look_20 : decode cX12_look 20 = .ok (.iload_n 3, 1) := by decide +kernel
theorem dX12_look_21 : decode cX12_look 21 = .ok (.ifCond .le 18, 3) := by decide +kernel
theorem dX12_look_39 : decode cX12_look 39 = .ok (.iconst 0, 1) := by decide +kernel
theorem dX12_look_40 : decode cX12_look 40 = .ok (.istore 4, 2) := by decide +kernel
theorem dX12_look_42 : decode cX12_look 42 = .ok (.iload_n 2, 1) := by decide +kernel
theorem dX12_look_43 : decode cX12_look 43 = .ok (.ifCond .lt 21, 3) := by decide +kernel
theorem dX12_look_46 : decode cX12_look 46 = .ok (.iload_n 2, 1) := by decide +kernel
theorem dX12_look_47 : decode cX12_look 47 = .ok (.iconst 4, 1) := by decide +kernel
theorem dX12_look_48 : decode cX12_look 48 = .ok (.if_icmp .gt 16, 3) := by decide +kernel
theorem dX12_look_51 : decode cX12_look 51 = .ok (.iload 4, 2) := by decide +kernel
theorem dX12_look_53 : decode cX12_look 53 = .ok (.ifCond .ne 13, 3) := by decide +kernel
theorem dX12_look_56 : decode cX12_look 56 = .ok (.aload_n 0, 1) := by decide +kernel
theorem dX12_look_57 : decode cX12_look 57 = .ok (.iload_n 1, 1) := by decide +kernel
theorem dX12_look_58 : decode cX12_look 58 = .ok (.invokevirtual 1553, 3) := by decide +kernel
theorem dX12_look_61 : decode cX12_look 61 = .ok (.ifCond .ne 5, 3) := by decide +kernel
theorem dX12_look_64 : decode cX12_look 64 = .ok (.iconst (-1), 1) := by decide +kernel
theorem dX12_look_65 : decode cX12_look 65 = .ok (.ireturn, 1) := by decide +kernel

theorem zCut_255 {n t : Int32} (h1 : ¬ n < -1) (h2 : ¬ 2000 < n) (h3 : ¬ t < 0) : zCut n t = if t ≤ 255 then 1 else -1 := by
  unfold zCut
  rw [if_neg h1, if_neg h2, if_neg h3]
  have e5 : (255 : Int32).toInt = 255 := by decide
  have e6 : (256 : Int32).toInt = 256 := by decide
  by_cases c : t ≤ 255
  · rw [if_pos c, if_pos (by rw [Int32.le_iff_toInt_le] at c; rw [Int32.lt_iff_toInt_lt]; omega)]
  · rw [if_neg c, if_neg (by rw [Int32.le_iff_toInt_le] at c; rw [Int32.lt_iff_toInt_lt]; omega)]

set_option maxHeartbeats 8000000 in
set_option maxRecDepth 100000 in
/--  -/
theorem r_isLiving (l : Launch) (D : va_G) (x : Nat → ClassId) (n0 : Int32) (h0 : Nat) (f0 : Nat → Value) (sz : Nat) (h0_104 : f0 104 = .int 0) : Met l yX12_isLiving (.code yX12_isLiving cX12_isLiving 2 (some .boolean) :: zW) ({ frames := 0, cells := (0), slots := (0), locals := 0 }) (va_Pc [.ref h0, .int n0] (fun U => U.heap.size = sz ∧ va_P D vwCl [(h0, .inr (12, zf 212 f0))] U.heap ∧ zK x D U ∧ va_D (fun _ => True) [(h0, .inr (12, zf 212 f0))])) (va_Qi (fun (r : Int32) (u : Unit) => r = 0) (fun u t => zB D vwCl (va_A [(h0, .inr (12, zf 212 f0))] sz) [(h0, .inr (12, zf 212 f0))] t) (va_A [(h0, .inr (12, zf 212 f0))] sz)) (0) (0) (va_A [(h0, .inr (12, zf 212 f0))] sz) := by
  refine Met.ofW (cc := cX12_isLiving) (maxL := 2) (ret := (some .boolean)) (by decide) rfl ?_
  intro p e s m args below meth c s₁ B hml hv
  obtain ⟨rfl, hsz, hP, hZ, hD0⟩ := hv
  have hK := hZ.1
  have hx := B.exec
  have hb := B.bytes
  have hr := B.returns
  have hts := atoms_spec (ws := .code yX12_isLiving cX12_isLiving 2 (some .boolean) :: zW) B.pre
  have hown : s.vm.findClass RX12 = some m.cls := findClass_of_methodNamed B.named
  have hlocks := B.notSynchronized
  subst hsz
  have hD := hD0.self (sz := s.heap.size)
  generalize hAe : va_A [(h0, .inr (12, zf 212 f0))] s.heap.size = A at hD ⊢
  have hA : ∀ q : Nat, s.heap.size ≤ q → A q := fun q h => by rw [← hAe]; exact Or.inr h
  have hS : va_S A s.heap s.heap [] := va_S.rf
  have hP : va_P D vwCl [(h0, .inr (12, zf 212 f0))] s.heap := hP
  have hl := lv_entry ([.ref h0, .int n0]) (n := 2) (Nat.le_of_ble_eq_true rfl)
  rw [lg_entry_eq]
  generalize (lg_sl ([.ref h0, .int n0]) ++ List.replicate (2 - (lg_sl ([.ref h0, .int n0])).length) Slot.unset).toArray = ls at hl ⊢
  have hl : lv_has ls 2 [(0, .ref h0), (1, .int n0)] := hl
  refine lv_iload_n hx hb dX12_isLiving_0 rfl (lv_at hl 1 rfl) ?_
  refine lv_if_lt (tgt := 25) hx hb dX12_isLiving_1 (by decide) (fun c_1 => ?_) (fun c_1 => ?_)
  · skip
    refine lv_iconst (v := 0) hx hb dX12_isLiving_25 (by decide) ?_
    refine W.widen (k := 0) (n := 0) (Nat.le_of_ble_eq_true rfl) (Nat.le_of_ble_eq_true rfl) ?_
    have hP9 := hP.sub (ws' := [(h0, .inr (12, zf 212 f0))]) [0] rfl
    have hD9 := hD.sub (ws' := [(h0, .inr (12, zf 212 f0))]) [0] (by decide) rfl
    exact W.zret (v := 0) hx hb hr (by decide) (fun t ht hW => ⟨⟨_, (), rfl, rfl, ⟨by rw [ht]; exact hP9, hD9⟩⟩, hS.F ht⟩) hS.2.2 dX12_isLiving_26
  · skip
    refine lv_iload_n hx hb dX12_isLiving_4 rfl (lv_at hl 1 rfl) ?_
    refine lv_aload_n hx hb dX12_isLiving_5 rfl (lv_at hl 0 rfl) ?_
    refine y_get (T := TX12) (N := 212) (ci := 12) hx hb hts (zi_12 _) hown hK hP 0 rfl rfl 104 (by decide) tX12_104 (hts _ (zm_660 _)) rfl h0_104 dX12_isLiving_6 ?_
    refine lv_icmp_ge (tgt := 25) hx hb dX12_isLiving_9 (by decide) (fun _ => ?_) (fun c9 => absurd ((z_ge0 c_1)) c9)
    refine lv_iconst (v := 0) hx hb dX12_isLiving_25 (by decide) ?_
    refine W.widen (k := 0) (n := 0) (Nat.le_of_ble_eq_true rfl) (Nat.le_of_ble_eq_true rfl) ?_
    have hP9 := hP.sub (ws' := [(h0, .inr (12, zf 212 f0))]) [0] rfl
    have hD9 := hD.sub (ws' := [(h0, .inr (12, zf 212 f0))]) [0] (by decide) rfl
    exact W.zret (v := 0) hx hb hr (by decide) (fun t ht hW => ⟨⟨_, (), rfl, rfl, ⟨by rw [ht]; exact hP9, hD9⟩⟩, hS.F ht⟩) hS.2.2 dX12_isLiving_26

set_option maxHeartbeats 8000000 in
set_option maxRecDepth 100000 in
/--  -/
theorem r_living (l : Launch) (D : va_G) (x : Nat → ClassId) (h0 : Nat) (f0 : Nat → Value) (na : Nat) (gn : Nat → Int32) (sz : Nat) (h0_106 : f0 106 = .ref na) (h1_0 : gn 0 = -1) (h1_1 : gn 1 = -1) (h1_2 : gn 2 = -1) (h1_3 : gn 3 = -1) (h1_4 : gn 4 = -1) (h1_5 : gn 5 = -1) : Met l yX12_living (.code yX12_living cX12_living 3 (some .int) :: zW) ({ frames := 0, cells := (0), slots := (0), locals := 0 }) (va_Pc [.ref h0] (fun U => U.heap.size = sz ∧ va_P D vwCl [(h0, .inr (12, zf 212 f0)), (na, .inl (x 0, 8, .inl gn))] U.heap ∧ zK x D U ∧ va_D (fun _ => True) [(h0, .inr (12, zf 212 f0)), (na, .inl (x 0, 8, .inl gn))])) (va_Qi (fun (r : Int32) (u : Unit) => r = 0) (fun u t => zB D vwCl (va_A [(h0, .inr (12, zf 212 f0)), (na, .inl (x 0, 8, .inl gn))] sz) [(h0, .inr (12, zf 212 f0)), (na, .inl (x 0, 8, .inl gn))] t) (va_A [(h0, .inr (12, zf 212 f0)), (na, .inl (x 0, 8, .inl gn))] sz)) (0) (0) (va_A [(h0, .inr (12, zf 212 f0)), (na, .inl (x 0, 8, .inl gn))] sz) := by
  refine Met.ofW (cc := cX12_living) (maxL := 3) (ret := (some .int)) (by decide) rfl ?_
  intro p e s m args below meth c s₁ B hml hv
  obtain ⟨rfl, hsz, hP, hZ, hD0⟩ := hv
  have hK := hZ.1
  have hx := B.exec
  have hb := B.bytes
  have hr := B.returns
  have hts := atoms_spec (ws := .code yX12_living cX12_living 3 (some .int) :: zW) B.pre
  have hown : s.vm.findClass RX12 = some m.cls := findClass_of_methodNamed B.named
  have hlocks := B.notSynchronized
  subst hsz
  have hD := hD0.self (sz := s.heap.size)
  generalize hAe : va_A [(h0, .inr (12, zf 212 f0)), (na, .inl (x 0, 8, .inl gn))] s.heap.size = A at hD ⊢
  have hA : ∀ q : Nat, s.heap.size ≤ q → A q := fun q h => by rw [← hAe]; exact Or.inr h
  have hS : va_S A s.heap s.heap [] := va_S.rf
  have hP : va_P D vwCl [(h0, .inr (12, zf 212 f0)), (na, .inl (x 0, 8, .inl gn))] s.heap := hP
  have hl := lv_entry ([.ref h0]) (n := 3) (Nat.le_of_ble_eq_true rfl)
  rw [lg_entry_eq]
  generalize (lg_sl ([.ref h0]) ++ List.replicate (3 - (lg_sl ([.ref h0])).length) Slot.unset).toArray = ls at hl ⊢
  have hl : lv_has ls 3 [(0, .ref h0)] := hl
  refine lv_iconst (v := 0) hx hb dX12_living_0 (by decide) ?_
  refine lv_istore_n (lv' := [(1, .int 0), (0, .ref h0)]) hx hb dX12_living_1 rfl hl (by decide) rfl (fun ls hl => ?_)
  refine lv_iconst (v := 0) hx hb dX12_living_2 (by decide) ?_
  refine lv_istore_n (lv' := [(2, .int 0), (1, .int 0), (0, .ref h0)]) hx hb dX12_living_3 rfl hl (by decide) rfl (fun ls hl => ?_)
  refine lv_iload_n hx hb dX12_living_4 rfl (lv_at hl 0 rfl) ?_
  refine lv_bipush (v := 6) hx hb dX12_living_5 (by decide) ?_
  refine lv_icmp_ge (tgt := 33) hx hb dX12_living_7 (by decide) (fun c9 => absurd c9 (by decide)) (fun _ => ?_)
  refine lv_iload_n hx hb dX12_living_10 rfl (lv_at hl 1 rfl) ?_
  refine lv_aload_n hx hb dX12_living_11 rfl (lv_at hl 2 rfl) ?_
  refine y_get (T := TX12) (N := 212) (ci := 12) hx hb hts (zi_12 _) hown hK hP 0 rfl rfl 106 (by decide) tX12_106 (hts _ (zm_543 _)) rfl h0_106 dX12_living_12 ?_
  refine lv_iload_n hx hb dX12_living_15 rfl (lv_at hl 0 rfl) ?_
  refine z_iald hx hb hK hP 1 0 rfl rfl (z_in (by decide)) h1_0 dX12_living_16 ?_
  refine lv_if_lt (tgt := 24) hx hb dX12_living_17 (by decide) (fun _ => ?_) (fun c9 => absurd (by decide) c9)
  refine lv_iconst (v := 0) hx hb dX12_living_24 (by decide) ?_
  refine lv_iadd hx hb dX12_living_25 ?_
  refine lv_topi (fun y_2 ex_1 => ?_)
  obtain rfl : y_2 = 0 := ex_1.trans (by decide)
  refine lv_istore_n (lv' := [(1, .int 0), (2, .int 0), (0, .ref h0)]) hx hb dX12_living_26 rfl hl (by decide) rfl (fun ls hl => ?_)
  refine lv_iinc (v := 1) (lv' := [(2, .int 1), (1, .int 0), (0, .ref h0)]) hx hb dX12_living_27 hl (k := 1) rfl (by decide) (by decide) rfl (fun ls hl => ?_)
  refine lv_goto (tgt := 4) hx hb dX12_living_30 (by decide) ?_
  refine lv_iload_n hx hb dX12_living_4 rfl (lv_at hl 0 rfl) ?_
  refine lv_bipush (v := 6) hx hb dX12_living_5 (by decide) ?_
  refine lv_icmp_ge (tgt := 33) hx hb dX12_living_7 (by decide) (fun c9 => absurd c9 (by decide)) (fun _ => ?_)
  refine lv_iload_n hx hb dX12_living_10 rfl (lv_at hl 1 rfl) ?_
  refine lv_aload_n hx hb dX12_living_11 rfl (lv_at hl 2 rfl) ?_
  refine y_get (T := TX12) (N := 212) (ci := 12) hx hb hts (zi_12 _) hown hK hP 0 rfl rfl 106 (by decide) tX12_106 (hts _ (zm_543 _)) rfl h0_106 dX12_living_12 ?_
  refine lv_iload_n hx hb dX12_living_15 rfl (lv_at hl 0 rfl) ?_
  refine z_iald hx hb hK hP 1 0 rfl rfl (z_in (by decide)) h1_1 dX12_living_16 ?_
  refine lv_if_lt (tgt := 24) hx hb dX12_living_17 (by decide) (fun _ => ?_) (fun c9 => absurd (by decide) c9)
  refine lv_iconst (v := 0) hx hb dX12_living_24 (by decide) ?_
  refine lv_iadd hx hb dX12_living_25 ?_
  refine lv_topi (fun y_4 ex_3 => ?_)
  obtain rfl : y_4 = 0 := ex_3.trans (by decide)
  refine lv_istore_n (lv' := [(1, .int 0), (2, .int 1), (0, .ref h0)]) hx hb dX12_living_26 rfl hl (by decide) rfl (fun ls hl => ?_)
  refine lv_iinc (v := 2) (lv' := [(2, .int 2), (1, .int 0), (0, .ref h0)]) hx hb dX12_living_27 hl (k := 1) rfl (by decide) (by decide) rfl (fun ls hl => ?_)
  refine lv_goto (tgt := 4) hx hb dX12_living_30 (by decide) ?_
  refine lv_iload_n hx hb dX12_living_4 rfl (lv_at hl 0 rfl) ?_
  refine lv_bipush (v := 6) hx hb dX12_living_5 (by decide) ?_
  refine lv_icmp_ge (tgt := 33) hx hb dX12_living_7 (by decide) (fun c9 => absurd c9 (by decide)) (fun _ => ?_)
  refine lv_iload_n hx hb dX12_living_10 rfl (lv_at hl 1 rfl) ?_
  refine lv_aload_n hx hb dX12_living_11 rfl (lv_at hl 2 rfl) ?_
  refine y_get (T := TX12) (N := 212) (ci := 12) hx hb hts (zi_12 _) hown hK hP 0 rfl rfl 106 (by decide) tX12_106 (hts _ (zm_543 _)) rfl h0_106 dX12_living_12 ?_
  refine lv_iload_n hx hb dX12_living_15 rfl (lv_at hl 0 rfl) ?_
  refine z_iald hx hb hK hP 1 0 rfl rfl (z_in (by decide)) h1_2 dX12_living_16 ?_
  refine lv_if_lt (tgt := 24) hx hb dX12_living_17 (by decide) (fun _ => ?_) (fun c9 => absurd (by decide) c9)
  refine lv_iconst (v := 0) hx hb dX12_living_24 (by decide) ?_
  refine lv_iadd hx hb dX12_living_25 ?_
  refine lv_topi (fun y_6 ex_5 => ?_)
  obtain rfl : y_6 = 0 := ex_5.trans (by decide)
  refine lv_istore_n (lv' := [(1, .int 0), (2, .int 2), (0, .ref h0)]) hx hb dX12_living_26 rfl hl (by decide) rfl (fun ls hl => ?_)
  refine lv_iinc (v := 3) (lv' := [(2, .int 3), (1, .int 0), (0, .ref h0)]) hx hb dX12_living_27 hl (k := 1) rfl (by decide) (by decide) rfl (fun ls hl => ?_)
  refine lv_goto (tgt := 4) hx hb dX12_living_30 (by decide) ?_
  refine lv_iload_n hx hb dX12_living_4 rfl (lv_at hl 0 rfl) ?_
  refine lv_bipush (v := 6) hx hb dX12_living_5 (by decide) ?_
  refine lv_icmp_ge (tgt := 33) hx hb dX12_living_7 (by decide) (fun c9 => absurd c9 (by decide)) (fun _ => ?_)
  refine lv_iload_n hx hb dX12_living_10 rfl (lv_at hl 1 rfl) ?_
  refine lv_aload_n hx hb dX12_living_11 rfl (lv_at hl 2 rfl) ?_
  refine y_get (T := TX12) (N := 212) (ci := 12) hx hb hts (zi_12 _) hown hK hP 0 rfl rfl 106 (by decide) tX12_106 (hts _ (zm_543 _)) rfl h0_106 dX12_living_12 ?_
  refine lv_iload_n hx hb dX12_living_15 rfl (lv_at hl 0 rfl) ?_
  refine z_iald hx hb hK hP 1 0 rfl rfl (z_in (by decide)) h1_3 dX12_living_16 ?_
  refine lv_if_lt (tgt := 24) hx hb dX12_living_17 (by decide) (fun _ => ?_) (fun c9 => absurd (by decide) c9)
  refine lv_iconst (v := 0) hx hb dX12_living_24 (by decide) ?_
  refine lv_iadd hx hb dX12_living_25 ?_
  refine lv_topi (fun y_8 ex_7 => ?_)
  obtain rfl : y_8 = 0 := ex_7.trans (by decide)
  refine lv_istore_n (lv' := [(1, .int 0), (2, .int 3), (0, .ref h0)]) hx hb dX12_living_26 rfl hl (by decide) rfl (fun ls hl => ?_)
  refine lv_iinc (v := 4) (lv' := [(2, .int 4), (1, .int 0), (0, .ref h0)]) hx hb dX12_living_27 hl (k := 1) rfl (by decide) (by decide) rfl (fun ls hl => ?_)
  refine lv_goto (tgt := 4) hx hb dX12_living_30 (by decide) ?_
  refine lv_iload_n hx hb dX12_living_4 rfl (lv_at hl 0 rfl) ?_
  refine lv_bipush (v := 6) hx hb dX12_living_5 (by decide) ?_
  refine lv_icmp_ge (tgt := 33) hx hb dX12_living_7 (by decide) (fun c9 => absurd c9 (by decide)) (fun _ => ?_)
  refine lv_iload_n hx hb dX12_living_10 rfl (lv_at hl 1 rfl) ?_
  refine lv_aload_n hx hb dX12_living_11 rfl (lv_at hl 2 rfl) ?_
  refine y_get (T := TX12) (N := 212) (ci := 12) hx hb hts (zi_12 _) hown hK hP 0 rfl rfl 106 (by decide) tX12_106 (hts _ (zm_543 _)) rfl h0_106 dX12_living_12 ?_
  refine lv_iload_n hx hb dX12_living_15 rfl (lv_at hl 0 rfl) ?_
  refine z_iald hx hb hK hP 1 0 rfl rfl (z_in (by decide)) h1_4 dX12_living_16 ?_
  refine lv_if_lt (tgt := 24) hx hb dX12_living_17 (by decide) (fun _ => ?_) (fun c9 => absurd (by decide) c9)
  refine lv_iconst (v := 0) hx hb dX12_living_24 (by decide) ?_
  refine lv_iadd hx hb dX12_living_25 ?_
  refine lv_topi (fun y_10 ex_9 => ?_)
  obtain rfl : y_10 = 0 := ex_9.trans (by decide)
  refine lv_istore_n (lv' := [(1, .int 0), (2, .int 4), (0, .ref h0)]) hx hb dX12_living_26 rfl hl (by decide) rfl (fun ls hl => ?_)
  refine lv_iinc (v := 5) (lv' := [(2, .int 5), (1, .int 0), (0, .ref h0)]) hx hb dX12_living_27 hl (k := 1) rfl (by decide) (by decide) rfl (fun ls hl => ?_)
  refine lv_goto (tgt := 4) hx hb dX12_living_30 (by decide) ?_
  refine lv_iload_n hx hb dX12_living_4 rfl (lv_at hl 0 rfl) ?_
  refine lv_bipush (v := 6) hx hb dX12_living_5 (by decide) ?_
  refine lv_icmp_ge (tgt := 33) hx hb dX12_living_7 (by decide) (fun c9 => absurd c9 (by decide)) (fun _ => ?_)
  refine lv_iload_n hx hb dX12_living_10 rfl (lv_at hl 1 rfl) ?_
  refine lv_aload_n hx hb dX12_living_11 rfl (lv_at hl 2 rfl) ?_
  refine y_get (T := TX12) (N := 212) (ci := 12) hx hb hts (zi_12 _) hown hK hP 0 rfl rfl 106 (by decide) tX12_106 (hts _ (zm_543 _)) rfl h0_106 dX12_living_12 ?_
  refine lv_iload_n hx hb dX12_living_15 rfl (lv_at hl 0 rfl) ?_
  refine z_iald hx hb hK hP 1 0 rfl rfl (z_in (by decide)) h1_5 dX12_living_16 ?_
  refine lv_if_lt (tgt := 24) hx hb dX12_living_17 (by decide) (fun _ => ?_) (fun c9 => absurd (by decide) c9)
  refine lv_iconst (v := 0) hx hb dX12_living_24 (by decide) ?_
  refine lv_iadd hx hb dX12_living_25 ?_
  refine lv_topi (fun y_12 ex_11 => ?_)
  obtain rfl : y_12 = 0 := ex_11.trans (by decide)
  refine lv_istore_n (lv' := [(1, .int 0), (2, .int 5), (0, .ref h0)]) hx hb dX12_living_26 rfl hl (by decide) rfl (fun ls hl => ?_)
  refine lv_iinc (v := 6) (lv' := [(2, .int 6), (1, .int 0), (0, .ref h0)]) hx hb dX12_living_27 hl (k := 1) rfl (by decide) (by decide) rfl (fun ls hl => ?_)
  refine lv_goto (tgt := 4) hx hb dX12_living_30 (by decide) ?_
  refine lv_iload_n hx hb dX12_living_4 rfl (lv_at hl 0 rfl) ?_
  refine lv_bipush (v := 6) hx hb dX12_living_5 (by decide) ?_
  refine lv_icmp_ge (tgt := 33) hx hb dX12_living_7 (by decide) (fun _ => ?_) (fun c9 => absurd (by decide) c9)
  refine lv_iload_n hx hb dX12_living_33 rfl (lv_at hl 1 rfl) ?_
  refine W.widen (k := 0) (n := 0) (Nat.le_of_ble_eq_true rfl) (Nat.le_of_ble_eq_true rfl) ?_
  have hP9 := hP.sub (ws' := [(h0, .inr (12, zf 212 f0)), (na, .inl (x 0, 8, .inl gn))]) [0, 1] rfl
  have hD9 := hD.sub (ws' := [(h0, .inr (12, zf 212 f0)), (na, .inl (x 0, 8, .inl gn))]) [0, 1] (by decide) rfl
  exact W.iret (v := 0) hx hb hr (fun t ht hW => ⟨⟨_, (), rfl, rfl, ⟨by rw [ht]; exact hP9, hD9⟩⟩, hS.F ht⟩) hS.2.2 dX12_living_34

set_option maxHeartbeats 8000000 in
set_option maxRecDepth 100000 in
/--  -/
theorem r_end (l : Launch) (D : va_G) (x : Nat → ClassId) (n0 : Int32) (h0 : Nat) (f0 : Nat → Value) (sz : Nat) (h0_195 : f0 195 = .int 0) : Met l yX12_end (.code yX12_end cX12_end 2 (some .int) :: zW) ({ frames := 0, cells := (0), slots := (0), locals := 0 }) (va_Pc [.ref h0, .int n0] (fun U => U.heap.size = sz ∧ va_P D vwCl [(h0, .inr (12, zf 212 f0))] U.heap ∧ zK x D U ∧ va_D (fun _ => True) [(h0, .inr (12, zf 212 f0))])) (va_Qi (fun (r : Int32) (u : Unit) => r = (zEnd n0)) (fun u t => True) (va_A [(h0, .inr (12, zf 212 f0))] sz)) (0) (0) (va_A [(h0, .inr (12, zf 212 f0))] sz) := by
  refine Met.ofW (cc := cX12_end) (maxL := 2) (ret := (some .int)) (by decide) rfl ?_
  intro p e s m args below meth c s₁ B hml hv
  obtain ⟨rfl, hsz, hP, hZ, hD0⟩ := hv
  have hK := hZ.1
  have hx := B.exec
  have hb := B.bytes
  have hr := B.returns
  have hts := atoms_spec (ws := .code yX12_end cX12_end 2 (some .int) :: zW) B.pre
  have hown : s.vm.findClass RX12 = some m.cls := findClass_of_methodNamed B.named
  have hlocks := B.notSynchronized
  subst hsz
  have hD := hD0.self (sz := s.heap.size)
  generalize hAe : va_A [(h0, .inr (12, zf 212 f0))] s.heap.size = A at hD ⊢
  have hA : ∀ q : Nat, s.heap.size ≤ q → A q := fun q h => by rw [← hAe]; exact Or.inr h
  have hS : va_S A s.heap s.heap [] := va_S.rf
  have hP : va_P D vwCl [(h0, .inr (12, zf 212 f0))] s.heap := hP
  have hl := lv_entry ([.ref h0, .int n0]) (n := 2) (Nat.le_of_ble_eq_true rfl)
  rw [lg_entry_eq]
  generalize (lg_sl ([.ref h0, .int n0]) ++ List.replicate (2 - (lg_sl ([.ref h0, .int n0])).length) Slot.unset).toArray = ls at hl ⊢
  have hl : lv_has ls 2 [(0, .ref h0), (1, .int n0)] := hl
  refine lv_iload_n hx hb dX12_end_0 rfl (lv_at hl 1 rfl) ?_
  refine lv_if_lt (tgt := 12) hx hb dX12_end_1 (by decide) (fun c_1 => ?_) (fun c_1 => ?_)
  · skip
    refine lv_iconst (v := (-1)) hx hb dX12_end_12 (by decide) ?_
    refine W.widen (k := 0) (n := 0) (Nat.le_of_ble_eq_true rfl) (Nat.le_of_ble_eq_true rfl) ?_
    exact W.iret (v := (-1)) hx hb hr (fun t ht hW => ⟨⟨_, (), rfl, by simp [zEnd, *], trivial⟩, hS.F ht⟩) hS.2.2 dX12_end_13
  · skip
    refine lv_iload_n hx hb dX12_end_4 rfl (lv_at hl 1 rfl) ?_
    refine lv_aload_n hx hb dX12_end_5 rfl (lv_at hl 0 rfl) ?_
    refine y_get (T := TX12) (N := 212) (ci := 12) hx hb hts (zi_12 _) hown hK hP 0 rfl rfl 195 (by decide) tX12_195 (hts _ (zm_630 _)) rfl h0_195 dX12_end_6 ?_
    refine lv_icmp_le (tgt := 14) hx hb dX12_end_9 (by decide) (fun c_2 => ?_) (fun c_2 => ?_)
    · skip
      refine lv_aload_n hx hb dX12_end_14 rfl (lv_at hl 0 rfl) ?_
      refine lv_iload_n hx hb dX12_end_15 rfl (lv_at hl 1 rfl) ?_
      refine y_put (T := TX12) (N := 212) (ci := 12) hx hb hts (zi_12 _) hown hK hP hD hS 0 rfl rfl 195 (by decide) tX12_195 uX12_195 (hts _ (zm_630 _)) rfl rfl rfl dX12_end_16 (fun H locs f_3 ek_4 ok_5 hP hD hS => ?_)
      have hP : va_P D vwCl [(h0, .inr (12, zf 212 f_3))] H := hP
      have hD : va_D A [(h0, .inr (12, zf 212 f_3))] := hD
      refine lv_iload_n hx hb dX12_end_19 rfl (lv_at hl 1 rfl) ?_
      refine W.widen (k := 0) (n := 0) (Nat.le_of_ble_eq_true rfl) (Nat.le_of_ble_eq_true rfl) ?_
      exact W.iret (v := n0) hx hb hr (fun t ht hW => ⟨⟨_, (), rfl, by simp [zEnd, *], trivial⟩, hS.F ht⟩) hS.2.2 dX12_end_20
    · skip
      refine lv_iconst (v := (-1)) hx hb dX12_end_12 (by decide) ?_
      refine W.widen (k := 0) (n := 0) (Nat.le_of_ble_eq_true rfl) (Nat.le_of_ble_eq_true rfl) ?_
      exact W.iret (v := (-1)) hx hb hr (fun t ht hW => ⟨⟨_, (), rfl, by simp [zEnd, *], trivial⟩, hS.F ht⟩) hS.2.2 dX12_end_13

set_option maxHeartbeats 8000000 in
set_option maxRecDepth 100000 in
/--  -/
theorem r_time (l : Launch) (D : va_G) (x : Nat → ClassId) (n0 : Int32) (h0 : Nat) (f0 : Nat → Value) (sz : Nat) (h0_169 : f0 169 = .int 0) (h0_196 : f0 196 = .int 0) : Met l yX12_time (.code yX12_time cX12_time 3 (some .int) :: zW) ({ frames := 0, cells := (0), slots := (0), locals := 0 }) (va_Pc [.ref h0, .int n0] (fun U => U.heap.size = sz ∧ va_P D vwCl [(h0, .inr (12, zf 212 f0))] U.heap ∧ zK x D U ∧ va_D (fun _ => True) [(h0, .inr (12, zf 212 f0))])) (va_Qi (fun (r : Int32) (u : Unit) => r = (zTime n0)) (fun u t => True) (va_A [(h0, .inr (12, zf 212 f0))] sz)) (0) (0) (va_A [(h0, .inr (12, zf 212 f0))] sz) := by
  refine Met.ofW (cc := cX12_time) (maxL := 3) (ret := (some .int)) (by decide) rfl ?_
  intro p e s m args below meth c s₁ B hml hv
  obtain ⟨rfl, hsz, hP, hZ, hD0⟩ := hv
  have hK := hZ.1
  have hx := B.exec
  have hb := B.bytes
  have hr := B.returns
  have hts := atoms_spec (ws := .code yX12_time cX12_time 3 (some .int) :: zW) B.pre
  have hown : s.vm.findClass RX12 = some m.cls := findClass_of_methodNamed B.named
  have hlocks := B.notSynchronized
  subst hsz
  have hD := hD0.self (sz := s.heap.size)
  generalize hAe : va_A [(h0, .inr (12, zf 212 f0))] s.heap.size = A at hD ⊢
  have hA : ∀ q : Nat, s.heap.size ≤ q → A q := fun q h => by rw [← hAe]; exact Or.inr h
  have hS : va_S A s.heap s.heap [] := va_S.rf
  have hP : va_P D vwCl [(h0, .inr (12, zf 212 f0))] s.heap := hP
  have hl := lv_entry ([.ref h0, .int n0]) (n := 3) (Nat.le_of_ble_eq_true rfl)
  rw [lg_entry_eq]
  generalize (lg_sl ([.ref h0, .int n0]) ++ List.replicate (3 - (lg_sl ([.ref h0, .int n0])).length) Slot.unset).toArray = ls at hl ⊢
  have hl : lv_has ls 3 [(0, .ref h0), (1, .int n0)] := hl
  refine lv_aload_n hx hb dX12_time_0 rfl (lv_at hl 0 rfl) ?_
  refine y_get (T := TX12) (N := 212) (ci := 12) hx hb hts (zi_12 _) hown hK hP 0 rfl rfl 196 (by decide) tX12_196 (hts _ (zm_637 _)) rfl h0_196 dX12_time_1 ?_
  refine lv_if_eq (tgt := 10) hx hb dX12_time_4 (by decide) (fun _ => ?_) (fun c9 => absurd (by decide) c9)
  refine lv_iload_n hx hb dX12_time_10 rfl (lv_at hl 1 rfl) ?_
  refine lv_aload_n hx hb dX12_time_11 rfl (lv_at hl 0 rfl) ?_
  refine y_get (T := TX12) (N := 212) (ci := 12) hx hb hts (zi_12 _) hown hK hP 0 rfl rfl 169 (by decide) tX12_169 (hts _ (zm_675 _)) rfl h0_169 dX12_time_12 ?_
  refine lv_icmp_lt (tgt := 25) hx hb dX12_time_15 (by decide) (fun c_1 => ?_) (fun c_1 => ?_)
  · skip
    refine lv_iconst (v := (-1)) hx hb dX12_time_25 (by decide) ?_
    refine W.widen (k := 0) (n := 0) (Nat.le_of_ble_eq_true rfl) (Nat.le_of_ble_eq_true rfl) ?_
    exact W.iret (v := (-1)) hx hb hr (fun t ht hW => ⟨⟨_, (), rfl, by simp [zTime, *], trivial⟩, hS.F ht⟩) hS.2.2 dX12_time_26
  · skip
    refine lv_iload_n hx hb dX12_time_18 rfl (lv_at hl 1 rfl) ?_
    refine lv_ldcw hx hb hown (hts _ (zm_676 _)) dX12_time_19 ?_
    refine lv_icmp_le (tgt := 27) hx hb dX12_time_22 (by decide) (fun c_2 => ?_) (fun c_2 => ?_)
    · skip
      refine lv_iload_n hx hb dX12_time_27 rfl (lv_at hl 1 rfl) ?_
      refine lv_aload_n hx hb dX12_time_28 rfl (lv_at hl 0 rfl) ?_
      refine y_get (T := TX12) (N := 212) (ci := 12) hx hb hts (zi_12 _) hown hK hP 0 rfl rfl 169 (by decide) tX12_169 (hts _ (zm_675 _)) rfl h0_169 dX12_time_29 ?_
      refine lv_isub hx hb dX12_time_32 ?_
      refine lv_topi (fun y_4 ex_3 => ?_)
      refine lv_istore_n (lv' := [(2, .int y_4), (0, .ref h0), (1, .int n0)]) hx hb dX12_time_33 rfl hl (by decide) rfl (fun ls hl => ?_)
      refine lv_aload_n hx hb dX12_time_34 rfl (lv_at hl 1 rfl) ?_
      refine lv_iload_n hx hb dX12_time_35 rfl (lv_at hl 2 rfl) ?_
      refine y_put (T := TX12) (N := 212) (ci := 12) hx hb hts (zi_12 _) hown hK hP hD hS 0 rfl rfl 169 (by decide) tX12_169 uX12_169 (hts _ (zm_675 _)) rfl rfl rfl dX12_time_36 (fun H locs f_5 ek_6 ok_7 hP hD hS => ?_)
      have hP : va_P D vwCl [(h0, .inr (12, zf 212 f_5))] H := hP
      have hD : va_D A [(h0, .inr (12, zf 212 f_5))] := hD
      refine lv_iload_n hx hb dX12_time_39 rfl (lv_at hl 0 rfl) ?_
      refine W.widen (k := 0) (n := 0) (Nat.le_of_ble_eq_true rfl) (Nat.le_of_ble_eq_true rfl) ?_
      exact W.iret (v := y_4) hx hb hr (fun t ht hW => ⟨⟨_, (), rfl, by simp [zTime, *], trivial⟩, hS.F ht⟩) hS.2.2 dX12_time_40
    · skip
      refine lv_iconst (v := (-1)) hx hb dX12_time_25 (by decide) ?_
      refine W.widen (k := 0) (n := 0) (Nat.le_of_ble_eq_true rfl) (Nat.le_of_ble_eq_true rfl) ?_
      exact W.iret (v := (-1)) hx hb hr (fun t ht hW => ⟨⟨_, (), rfl, by simp [zTime, *], trivial⟩, hS.F ht⟩) hS.2.2 dX12_time_26

set_option maxHeartbeats 8000000 in
set_option maxRecDepth 100000 in
/--  -/
theorem r_seed (l : Launch) (D : va_G) (x : Nat → ClassId) (n0 : Int64) (h0 : Nat) (f0 : Nat → Value) (sz : Nat) (h0_196 : f0 196 = .int 0) : Met l yX12_seed (.code yX12_seed cX12_seed 3 (some .int) :: zW) ({ frames := 0, cells := (0), slots := (0), locals := 0 }) (va_Pc [.ref h0, .long n0] (fun U => U.heap.size = sz ∧ va_P D vwCl [(h0, .inr (12, zf 212 f0))] U.heap ∧ zK x D U ∧ va_D (fun _ => True) [(h0, .inr (12, zf 212 f0))])) (va_Qi (fun (r : Int32) (u : Unit) => r = 1) (fun u t => True) (va_A [(h0, .inr (12, zf 212 f0))] sz)) (0) (0) (va_A [(h0, .inr (12, zf 212 f0))] sz) := by
  refine Met.ofW (cc := cX12_seed) (maxL := 3) (ret := (some .int)) (by decide) rfl ?_
  intro p e s m args below meth c s₁ B hml hv
  obtain ⟨rfl, hsz, hP, hZ, hD0⟩ := hv
  have hK := hZ.1
  have hx := B.exec
  have hb := B.bytes
  have hr := B.returns
  have hts := atoms_spec (ws := .code yX12_seed cX12_seed 3 (some .int) :: zW) B.pre
  have hown : s.vm.findClass RX12 = some m.cls := findClass_of_methodNamed B.named
  have hlocks := B.notSynchronized
  subst hsz
  have hD := hD0.self (sz := s.heap.size)
  generalize hAe : va_A [(h0, .inr (12, zf 212 f0))] s.heap.size = A at hD ⊢
  have hA : ∀ q : Nat, s.heap.size ≤ q → A q := fun q h => by rw [← hAe]; exact Or.inr h
  have hS : va_S A s.heap s.heap [] := va_S.rf
  have hP : va_P D vwCl [(h0, .inr (12, zf 212 f0))] s.heap := hP
  have hl := lv_entry ([.ref h0, .long n0]) (n := 3) (Nat.le_of_ble_eq_true rfl)
  rw [lg_entry_eq]
  generalize (lg_sl ([.ref h0, .long n0]) ++ List.replicate (3 - (lg_sl ([.ref h0, .long n0])).length) Slot.unset).toArray = ls at hl ⊢
  have hl : lv_has ls 3 [(0, .ref h0), (1, .long n0)] := hl
  refine lv_aload_n hx hb dX12_seed_0 rfl (lv_at hl 0 rfl) ?_
  refine y_get (T := TX12) (N := 212) (ci := 12) hx hb hts (zi_12 _) hown hK hP 0 rfl rfl 196 (by decide) tX12_196 (hts _ (zm_637 _)) rfl h0_196 dX12_seed_1 ?_
  refine lv_if_eq (tgt := 10) hx hb dX12_seed_4 (by decide) (fun _ => ?_) (fun c9 => absurd (by decide) c9)
  refine lv_aload_n hx hb dX12_seed_10 rfl (lv_at hl 0 rfl) ?_
  refine lv_lload_n hx hb dX12_seed_11 rfl (lv_at hl 1 rfl) ?_
  refine y_put (T := TX12) (N := 212) (ci := 12) hx hb hts (zi_12 _) hown hK hP hD hS 0 rfl rfl 168 (by decide) tX12_168 uX12_168 (hts _ (zm_680 _)) rfl rfl rfl dX12_seed_12 (fun H locs f_1 ek_2 ok_3 hP hD hS => ?_)
  have hP : va_P D vwCl [(h0, .inr (12, zf 212 f_1))] H := hP
  have hD : va_D A [(h0, .inr (12, zf 212 f_1))] := hD
  refine lv_iconst (v := 1) hx hb dX12_seed_15 (by decide) ?_
  refine W.widen (k := 0) (n := 0) (Nat.le_of_ble_eq_true rfl) (Nat.le_of_ble_eq_true rfl) ?_
  exact W.iret (v := 1) hx hb hr (fun t ht hW => ⟨⟨_, (), rfl, rfl, trivial⟩, hS.F ht⟩) hS.2.2 dX12_seed_16

set_option maxHeartbeats 8000000 in
set_option maxRecDepth 100000 in
/--  -/
theorem r_turns (l : Launch) (D : va_G) (x : Nat → ClassId) (n0 : Int32) (h0 : Nat) (f0 : Nat → Value) (na : Nat) (gn : Nat → Int32) (sz : Nat) (h0_196 : f0 196 = .int 0) (h0_106 : f0 106 = .ref na) (h1_0 : gn 0 = -1) (h1_1 : gn 1 = -1) (h1_2 : gn 2 = -1) (h1_3 : gn 3 = -1) (h1_4 : gn 4 = -1) (h1_5 : gn 5 = -1) : Met l yX12_turns (.code yX12_turns cX12_turns 6 (some .int) :: zW) ({ frames := 1, cells := (0), slots := (0), locals := 22 }) (va_Pc [.ref h0, .int n0] (fun U => U.heap.size = sz ∧ va_P D vwCl [(h0, .inr (12, zf 212 f0)), (na, .inl (x 0, 8, .inl gn))] U.heap ∧ zK x D U ∧ va_D (fun _ => True) [(h0, .inr (12, zf 212 f0)), (na, .inl (x 0, 8, .inl gn))])) (va_Qi (fun (r : Int32) (u : Unit) => r = (zTurns n0)) (fun u t => True) (va_A [(h0, .inr (12, zf 212 f0)), (na, .inl (x 0, 8, .inl gn))] sz)) (0) (0) (va_A [(h0, .inr (12, zf 212 f0)), (na, .inl (x 0, 8, .inl gn))] sz) := by
  refine Met.ofW (cc := cX12_turns) (maxL := 6) (ret := (some .int)) (by decide) rfl ?_
  intro p e s m args below meth c s₁ B hml hv
  obtain ⟨rfl, hsz, hP, hZ, hD0⟩ := hv
  have hK := hZ.1
  have hx := B.exec
  have hb := B.bytes
  have hr := B.returns
  have hts := atoms_spec (ws := .code yX12_turns cX12_turns 6 (some .int) :: zW) B.pre
  have hown : s.vm.findClass RX12 = some m.cls := findClass_of_methodNamed B.named
  have hlocks := B.notSynchronized
  subst hsz
  have hD := hD0.self (sz := s.heap.size)
  generalize hAe : va_A [(h0, .inr (12, zf 212 f0)), (na, .inl (x 0, 8, .inl gn))] s.heap.size = A at hD ⊢
  have hA : ∀ q : Nat, s.heap.size ≤ q → A q := fun q h => by rw [← hAe]; exact Or.inr h
  have hS : va_S A s.heap s.heap [] := va_S.rf
  have hP : va_P D vwCl [(h0, .inr (12, zf 212 f0)), (na, .inl (x 0, 8, .inl gn))] s.heap := hP
  have hl := lv_entry ([.ref h0, .int n0]) (n := 6) (Nat.le_of_ble_eq_true rfl)
  rw [lg_entry_eq]
  generalize (lg_sl ([.ref h0, .int n0]) ++ List.replicate (6 - (lg_sl ([.ref h0, .int n0])).length) Slot.unset).toArray = ls at hl ⊢
  have hl : lv_has ls 6 [(0, .ref h0), (1, .int n0)] := hl
  refine lv_aload_n hx hb dX12_turns_0 rfl (lv_at hl 0 rfl) ?_
  refine y_get (T := TX12) (N := 212) (ci := 12) hx hb hts (zi_12 _) hown hK hP 0 rfl rfl 196 (by decide) tX12_196 (hts _ (zm_637 _)) rfl h0_196 dX12_turns_1 ?_
  refine lv_if_eq (tgt := 10) hx hb dX12_turns_4 (by decide) (fun _ => ?_) (fun c9 => absurd (by decide) c9)
  refine lv_iload_n hx hb dX12_turns_10 rfl (lv_at hl 1 rfl) ?_
  refine lv_iconst (v := 1) hx hb dX12_turns_11 (by decide) ?_
  refine lv_icmp_lt (tgt := 22) hx hb dX12_turns_12 (by decide) (fun c_1 => ?_) (fun c_1 => ?_)
  · skip
    refine lv_iconst (v := (-1)) hx hb dX12_turns_22 (by decide) ?_
    refine W.widen (k := 0) (n := 0) (Nat.le_of_ble_eq_true rfl) (Nat.le_of_ble_eq_true rfl) ?_
    exact W.iret (v := (-1)) hx hb hr (fun t ht hW => ⟨⟨_, (), rfl, by simp [zTurns, *], trivial⟩, hS.F ht⟩) hS.2.2 dX12_turns_23
  · skip
    refine lv_iload_n hx hb dX12_turns_15 rfl (lv_at hl 1 rfl) ?_
    refine lv_sipush (v := 400) hx hb dX12_turns_16 (by decide) ?_
    refine lv_icmp_le (tgt := 24) hx hb dX12_turns_19 (by decide) (fun c_2 => ?_) (fun c_2 => ?_)
    · skip
      refine lv_iconst (v := 0) hx hb dX12_turns_24 (by decide) ?_
      refine lv_istore_n (lv' := [(2, .int 0), (0, .ref h0), (1, .int n0)]) hx hb dX12_turns_25 rfl hl (by decide) rfl (fun ls hl => ?_)
      refine lv_iconst (v := 0) hx hb dX12_turns_26 (by decide) ?_
      refine lv_istore_n (lv' := [(3, .int 0), (2, .int 0), (0, .ref h0), (1, .int n0)]) hx hb dX12_turns_27 rfl hl (by decide) rfl (fun ls hl => ?_)
      refine lv_iload_n hx hb dX12_turns_28 rfl (lv_at hl 0 rfl) ?_
      refine lv_iload_n hx hb dX12_turns_29 rfl (lv_at hl 3 rfl) ?_
      refine lv_icmp_ge (tgt := 171) hx hb dX12_turns_30 (by decide) (fun c9 => absurd c9 ((z_turn c_1))) (fun _ => ?_)
      refine lv_aload_n hx hb dX12_turns_33 rfl (lv_at hl 2 rfl) ?_
      have hPc := hP.sub (ws' := [(h0, .inr (12, zf 212 f0)), (na, .inl (x 0, 8, .inl gn))]) [0, 1] rfl
      have hDc := hD.sub (ws' := [(h0, .inr (12, zf 212 f0)), (na, .inl (x 0, 8, .inl gn))]) [0, 1] (by decide) rfl
      have hFc := va_free (wc := [(h0, .inr (12, zf 212 f0)), (na, .inl (x 0, 8, .inl gn))]) hD hS hA [0, 1] rfl
      have h_4 : 0 + 0 ≤ 0 ∧ 0 + 0 ≤ 0 := by omega
      refine va_calli (va_runV (As := []) (rest := []) ⟨hx, hb, hml, hown, hts⟩ (r_living l D x h0 f0 na gn s.heap.size h0_106 h1_0 h1_1 h1_2 h1_3 h1_4 h1_5) ⟨callB_of 0 hts (zgood (zm_788 _) rfl) rfl rfl rfl (hts _ (zm_459 _)) (hts _ (zm_684 _)) ⟨by decide, by decide, by decide +kernel⟩ ⟨Nat.le_of_ble_eq_true rfl, Nat.le_of_ble_eq_true rfl⟩, hts _ (zm_789 _), hts _ (zm_790 _)⟩ ⟨fun a U g mk q => by obtain ⟨q0, q1, qP, qK, qD⟩ := q; exact ⟨q0, q1, qP, ZK.calling (u := U) zN_ok rfl qK, qD⟩, va_recv hK hPc (ci := 12) (q0 := 0) rfl rfl, fun U hU hW => ⟨rfl, by rw [hU], by rw [hU]; exact hPc, ZK.warm zN_ok hW hZ, hDc.weaken (fun _ _ _ _ => trivial)⟩⟩ rfl rfl hl.1 rfl (lv_room (Nat.le_of_ble_eq_true rfl)) dX12_turns_34 h_4) hS (fun q _ h => hFc q h) hFc (fun r_3 u t H1 locs ht hvm hw_3 hB hz1 hk1 hS => ?_)
      obtain ⟨hP1, hD1⟩ := hB
      rw [ht] at hP1
      try dsimp only at hw_3
      obtain ⟨hP, hD⟩ := va_join (wr := []) (w1 := [(h0, .inr (12, zf 212 f0)), (na, .inl (x 0, 8, .inl gn))]) hP hD [0, 1] [] rfl rfl (by decide) (by decide) hk1 hFc hP1 hD1
      generalize H1 = H at hP hS ⊢
      have hP : va_P D vwCl [(h0, .inr (12, zf 212 f0)), (na, .inl (x 0, 8, .inl gn))] H := hP
      have hD : va_D A [(h0, .inr (12, zf 212 f0)), (na, .inl (x 0, 8, .inl gn))] := hD
      refine W.widen (k := 0) (n := 0) (by omega) (by omega) ?_
      obtain rfl : r_3 = 0 := hw_3
      refine lv_if_le (tgt := 171) hx hb dX12_turns_37 (by decide) (fun _ => ?_) (fun c9 => absurd (by decide) c9)
      refine lv_iload_n hx hb dX12_turns_171 rfl (lv_at hl 1 rfl) ?_
      refine W.widen (k := 0) (n := 0) (Nat.le_of_ble_eq_true rfl) (Nat.le_of_ble_eq_true rfl) ?_
      exact W.iret (v := 0) hx hb hr (fun t ht hW => ⟨⟨_, (), rfl, by simp [zTurns, *], trivial⟩, hS.F ht⟩) hS.2.2 dX12_turns_172
    · skip
      refine lv_iconst (v := (-1)) hx hb dX12_turns_22 (by decide) ?_
      refine W.widen (k := 0) (n := 0) (Nat.le_of_ble_eq_true rfl) (Nat.le_of_ble_eq_true rfl) ?_
      exact W.iret (v := (-1)) hx hb hr (fun t ht hW => ⟨⟨_, (), rfl, by simp [zTurns, *], trivial⟩, hS.F ht⟩) hS.2.2 dX12_turns_23

set_option maxHeartbeats 8000000 in
set_option maxRecDepth 100000 in
/--  -/
theorem r_halt (l : Launch) (D : va_G) (x : Nat → ClassId) (n0 : Int32) (h0 : Nat) (f0 : Nat → Value) (sz : Nat) (h0_104 : f0 104 = .int 0) (h0_196 : f0 196 = .int 0) : Met l yX12_halt (.code yX12_halt cX12_halt 3 (some .int) :: zW) ({ frames := 0, cells := (0), slots := (0), locals := 0 }) (va_Pc [.ref h0, .int n0] (fun U => U.heap.size = sz ∧ va_P D vwCl [(h0, .inr (12, zf 212 f0))] U.heap ∧ zK x D U ∧ va_D (fun _ => True) [(h0, .inr (12, zf 212 f0))])) (va_Qi (fun (r : Int32) (u : Unit) => r = (-1)) (fun u t => True) (va_A [(h0, .inr (12, zf 212 f0))] sz)) (0) (0) (va_A [(h0, .inr (12, zf 212 f0))] sz) := by
  refine Met.ofW (cc := cX12_halt) (maxL := 3) (ret := (some .int)) (by decide) rfl ?_
  intro p e s m args below meth c s₁ B hml hv
  obtain ⟨rfl, hsz, hP, hZ, hD0⟩ := hv
  have hK := hZ.1
  have hx := B.exec
  have hb := B.bytes
  have hr := B.returns
  have hts := atoms_spec (ws := .code yX12_halt cX12_halt 3 (some .int) :: zW) B.pre
  have hown : s.vm.findClass RX12 = some m.cls := findClass_of_methodNamed B.named
  have hlocks := B.notSynchronized
  subst hsz
  have hD := hD0.self (sz := s.heap.size)
  generalize hAe : va_A [(h0, .inr (12, zf 212 f0))] s.heap.size = A at hD ⊢
  have hA : ∀ q : Nat, s.heap.size ≤ q → A q := fun q h => by rw [← hAe]; exact Or.inr h
  have hS : va_S A s.heap s.heap [] := va_S.rf
  have hP : va_P D vwCl [(h0, .inr (12, zf 212 f0))] s.heap := hP
  have hl := lv_entry ([.ref h0, .int n0]) (n := 3) (Nat.le_of_ble_eq_true rfl)
  rw [lg_entry_eq]
  generalize (lg_sl ([.ref h0, .int n0]) ++ List.replicate (3 - (lg_sl ([.ref h0, .int n0])).length) Slot.unset).toArray = ls at hl ⊢
  have hl : lv_has ls 3 [(0, .ref h0), (1, .int n0)] := hl
  refine lv_aload_n hx hb dX12_halt_0 rfl (lv_at hl 0 rfl) ?_
  refine y_get (T := TX12) (N := 212) (ci := 12) hx hb hts (zi_12 _) hown hK hP 0 rfl rfl 196 (by decide) tX12_196 (hts _ (zm_637 _)) rfl h0_196 dX12_halt_1 ?_
  refine lv_if_eq (tgt := 10) hx hb dX12_halt_4 (by decide) (fun _ => ?_) (fun c9 => absurd (by decide) c9)
  refine lv_iload_n hx hb dX12_halt_10 rfl (lv_at hl 1 rfl) ?_
  refine lv_if_lt (tgt := 22) hx hb dX12_halt_11 (by decide) (fun c_1 => ?_) (fun c_1 => ?_)
  · skip
    refine lv_iconst (v := (-1)) hx hb dX12_halt_22 (by decide) ?_
    refine W.widen (k := 0) (n := 0) (Nat.le_of_ble_eq_true rfl) (Nat.le_of_ble_eq_true rfl) ?_
    exact W.iret (v := (-1)) hx hb hr (fun t ht hW => ⟨⟨_, (), rfl, rfl, trivial⟩, hS.F ht⟩) hS.2.2 dX12_halt_23
  · skip
    refine lv_iload_n hx hb dX12_halt_14 rfl (lv_at hl 1 rfl) ?_
    refine lv_aload_n hx hb dX12_halt_15 rfl (lv_at hl 0 rfl) ?_
    refine y_get (T := TX12) (N := 212) (ci := 12) hx hb hts (zi_12 _) hown hK hP 0 rfl rfl 104 (by decide) tX12_104 (hts _ (zm_660 _)) rfl h0_104 dX12_halt_16 ?_
    refine lv_icmp_lt (tgt := 24) hx hb dX12_halt_19 (by decide) (fun c9 => absurd c9 (c_1)) (fun _ => ?_)
    refine lv_iconst (v := (-1)) hx hb dX12_halt_22 (by decide) ?_
    refine W.widen (k := 0) (n := 0) (Nat.le_of_ble_eq_true rfl) (Nat.le_of_ble_eq_true rfl) ?_
    exact W.iret (v := (-1)) hx hb hr (fun t ht hW => ⟨⟨_, (), rfl, rfl, trivial⟩, hS.F ht⟩) hS.2.2 dX12_halt_23

set_option maxHeartbeats 8000000 in
set_option maxRecDepth 100000 in
/--  -/
theorem r_take (l : Launch) (D : va_G) (x : Nat → ClassId) (n0 : Int32) (h0 : Nat) (f0 : Nat → Value) (sz : Nat) (h0_104 : f0 104 = .int 0) (h0_196 : f0 196 = .int 0) : Met l yX12_take (.code yX12_take cX12_take 3 (some .int) :: zW) ({ frames := 0, cells := (0), slots := (0), locals := 0 }) (va_Pc [.ref h0, .int n0] (fun U => U.heap.size = sz ∧ va_P D vwCl [(h0, .inr (12, zf 212 f0))] U.heap ∧ zK x D U ∧ va_D (fun _ => True) [(h0, .inr (12, zf 212 f0))])) (va_Qi (fun (r : Int32) (u : Unit) => r = (-1)) (fun u t => True) (va_A [(h0, .inr (12, zf 212 f0))] sz)) (0) (0) (va_A [(h0, .inr (12, zf 212 f0))] sz) := by
  refine Met.ofW (cc := cX12_take) (maxL := 3) (ret := (some .int)) (by decide) rfl ?_
  intro p e s m args below meth c s₁ B hml hv
  obtain ⟨rfl, hsz, hP, hZ, hD0⟩ := hv
  have hK := hZ.1
  have hx := B.exec
  have hb := B.bytes
  have hr := B.returns
  have hts := atoms_spec (ws := .code yX12_take cX12_take 3 (some .int) :: zW) B.pre
  have hown : s.vm.findClass RX12 = some m.cls := findClass_of_methodNamed B.named
  have hlocks := B.notSynchronized
  subst hsz
  have hD := hD0.self (sz := s.heap.size)
  generalize hAe : va_A [(h0, .inr (12, zf 212 f0))] s.heap.size = A at hD ⊢
  have hA : ∀ q : Nat, s.heap.size ≤ q → A q := fun q h => by rw [← hAe]; exact Or.inr h
  have hS : va_S A s.heap s.heap [] := va_S.rf
  have hP : va_P D vwCl [(h0, .inr (12, zf 212 f0))] s.heap := hP
  have hl := lv_entry ([.ref h0, .int n0]) (n := 3) (Nat.le_of_ble_eq_true rfl)
  rw [lg_entry_eq]
  generalize (lg_sl ([.ref h0, .int n0]) ++ List.replicate (3 - (lg_sl ([.ref h0, .int n0])).length) Slot.unset).toArray = ls at hl ⊢
  have hl : lv_has ls 3 [(0, .ref h0), (1, .int n0)] := hl
  refine lv_aload_n hx hb dX12_take_0 rfl (lv_at hl 0 rfl) ?_
  refine y_get (T := TX12) (N := 212) (ci := 12) hx hb hts (zi_12 _) hown hK hP 0 rfl rfl 196 (by decide) tX12_196 (hts _ (zm_637 _)) rfl h0_196 dX12_take_1 ?_
  refine lv_if_eq (tgt := 10) hx hb dX12_take_4 (by decide) (fun _ => ?_) (fun c9 => absurd (by decide) c9)
  refine lv_iload_n hx hb dX12_take_10 rfl (lv_at hl 1 rfl) ?_
  refine lv_if_lt (tgt := 22) hx hb dX12_take_11 (by decide) (fun c_1 => ?_) (fun c_1 => ?_)
  · skip
    refine lv_iconst (v := (-1)) hx hb dX12_take_22 (by decide) ?_
    refine W.widen (k := 0) (n := 0) (Nat.le_of_ble_eq_true rfl) (Nat.le_of_ble_eq_true rfl) ?_
    exact W.iret (v := (-1)) hx hb hr (fun t ht hW => ⟨⟨_, (), rfl, rfl, trivial⟩, hS.F ht⟩) hS.2.2 dX12_take_23
  · skip
    refine lv_iload_n hx hb dX12_take_14 rfl (lv_at hl 1 rfl) ?_
    refine lv_aload_n hx hb dX12_take_15 rfl (lv_at hl 0 rfl) ?_
    refine y_get (T := TX12) (N := 212) (ci := 12) hx hb hts (zi_12 _) hown hK hP 0 rfl rfl 104 (by decide) tX12_104 (hts _ (zm_660 _)) rfl h0_104 dX12_take_16 ?_
    refine lv_icmp_lt (tgt := 24) hx hb dX12_take_19 (by decide) (fun c9 => absurd c9 (c_1)) (fun _ => ?_)
    refine lv_iconst (v := (-1)) hx hb dX12_take_22 (by decide) ?_
    refine W.widen (k := 0) (n := 0) (Nat.le_of_ble_eq_true rfl) (Nat.le_of_ble_eq_true rfl) ?_
    exact W.iret (v := (-1)) hx hb hr (fun t ht hW => ⟨⟨_, (), rfl, rfl, trivial⟩, hS.F ht⟩) hS.2.2 dX12_take_23

set_option maxHeartbeats 8000000 in
set_option maxRecDepth 100000 in
/--  -/
theorem r_code (l : Launch) (D : va_G) (x : Nat → ClassId) (n0 : Int32) (h0 : Nat) (f0 : Nat → Value) (sz : Nat) (h0_104 : f0 104 = .int 0) (h0_196 : f0 196 = .int 0) : Met l yX12_code (.code yX12_code cX12_code 2 (some .int) :: zW) ({ frames := 0, cells := (0), slots := (0), locals := 0 }) (va_Pc [.ref h0, .int n0] (fun U => U.heap.size = sz ∧ va_P D vwCl [(h0, .inr (12, zf 212 f0))] U.heap ∧ zK x D U ∧ va_D (fun _ => True) [(h0, .inr (12, zf 212 f0))])) (va_Qi (fun (r : Int32) (u : Unit) => r = (-1)) (fun u t => True) (va_A [(h0, .inr (12, zf 212 f0))] sz)) (0) (0) (va_A [(h0, .inr (12, zf 212 f0))] sz) := by
  refine Met.ofW (cc := cX12_code) (maxL := 2) (ret := (some .int)) (by decide) rfl ?_
  intro p e s m args below meth c s₁ B hml hv
  obtain ⟨rfl, hsz, hP, hZ, hD0⟩ := hv
  have hK := hZ.1
  have hx := B.exec
  have hb := B.bytes
  have hr := B.returns
  have hts := atoms_spec (ws := .code yX12_code cX12_code 2 (some .int) :: zW) B.pre
  have hown : s.vm.findClass RX12 = some m.cls := findClass_of_methodNamed B.named
  have hlocks := B.notSynchronized
  subst hsz
  have hD := hD0.self (sz := s.heap.size)
  generalize hAe : va_A [(h0, .inr (12, zf 212 f0))] s.heap.size = A at hD ⊢
  have hA : ∀ q : Nat, s.heap.size ≤ q → A q := fun q h => by rw [← hAe]; exact Or.inr h
  have hS : va_S A s.heap s.heap [] := va_S.rf
  have hP : va_P D vwCl [(h0, .inr (12, zf 212 f0))] s.heap := hP
  have hl := lv_entry ([.ref h0, .int n0]) (n := 2) (Nat.le_of_ble_eq_true rfl)
  rw [lg_entry_eq]
  generalize (lg_sl ([.ref h0, .int n0]) ++ List.replicate (2 - (lg_sl ([.ref h0, .int n0])).length) Slot.unset).toArray = ls at hl ⊢
  have hl : lv_has ls 2 [(0, .ref h0), (1, .int n0)] := hl
  refine lv_aload_n hx hb dX12_code_0 rfl (lv_at hl 0 rfl) ?_
  refine y_get (T := TX12) (N := 212) (ci := 12) hx hb hts (zi_12 _) hown hK hP 0 rfl rfl 196 (by decide) tX12_196 (hts _ (zm_637 _)) rfl h0_196 dX12_code_1 ?_
  refine lv_if_eq (tgt := 10) hx hb dX12_code_4 (by decide) (fun _ => ?_) (fun c9 => absurd (by decide) c9)
  refine lv_iload_n hx hb dX12_code_10 rfl (lv_at hl 1 rfl) ?_
  refine lv_if_lt (tgt := 22) hx hb dX12_code_11 (by decide) (fun c_1 => ?_) (fun c_1 => ?_)
  · skip
    refine lv_iconst (v := (-1)) hx hb dX12_code_22 (by decide) ?_
    refine W.widen (k := 0) (n := 0) (Nat.le_of_ble_eq_true rfl) (Nat.le_of_ble_eq_true rfl) ?_
    exact W.iret (v := (-1)) hx hb hr (fun t ht hW => ⟨⟨_, (), rfl, rfl, trivial⟩, hS.F ht⟩) hS.2.2 dX12_code_23
  · skip
    refine lv_iload_n hx hb dX12_code_14 rfl (lv_at hl 1 rfl) ?_
    refine lv_aload_n hx hb dX12_code_15 rfl (lv_at hl 0 rfl) ?_
    refine y_get (T := TX12) (N := 212) (ci := 12) hx hb hts (zi_12 _) hown hK hP 0 rfl rfl 104 (by decide) tX12_104 (hts _ (zm_660 _)) rfl h0_104 dX12_code_16 ?_
    refine lv_icmp_lt (tgt := 24) hx hb dX12_code_19 (by decide) (fun c9 => absurd c9 (c_1)) (fun _ => ?_)
    refine lv_iconst (v := (-1)) hx hb dX12_code_22 (by decide) ?_
    refine W.widen (k := 0) (n := 0) (Nat.le_of_ble_eq_true rfl) (Nat.le_of_ble_eq_true rfl) ?_
    exact W.iret (v := (-1)) hx hb hr (fun t ht hW => ⟨⟨_, (), rfl, rfl, trivial⟩, hS.F ht⟩) hS.2.2 dX12_code_23

set_option maxHeartbeats 8000000 in
set_option maxRecDepth 100000 in
/--  -/
theorem r_state (l : Launch) (D : va_G) (x : Nat → ClassId) (n0 : Int32) (n1 : Int32) (h0 : Nat) (f0 : Nat → Value) (sz : Nat) (h0_104 : f0 104 = .int 0) (h0_196 : f0 196 = .int 0) : Met l yX12_state (.code yX12_state cX12_state 6 (some .int) :: zW) ({ frames := 0, cells := (0), slots := (0), locals := 0 }) (va_Pc [.ref h0, .int n0, .int n1] (fun U => U.heap.size = sz ∧ va_P D vwCl [(h0, .inr (12, zf 212 f0))] U.heap ∧ zK x D U ∧ va_D (fun _ => True) [(h0, .inr (12, zf 212 f0))])) (va_Qi (fun (r : Int32) (u : Unit) => r = (-1)) (fun u t => True) (va_A [(h0, .inr (12, zf 212 f0))] sz)) (0) (0) (va_A [(h0, .inr (12, zf 212 f0))] sz) := by
  refine Met.ofW (cc := cX12_state) (maxL := 6) (ret := (some .int)) (by decide) rfl ?_
  intro p e s m args below meth c s₁ B hml hv
  obtain ⟨rfl, hsz, hP, hZ, hD0⟩ := hv
  have hK := hZ.1
  have hx := B.exec
  have hb := B.bytes
  have hr := B.returns
  have hts := atoms_spec (ws := .code yX12_state cX12_state 6 (some .int) :: zW) B.pre
  have hown : s.vm.findClass RX12 = some m.cls := findClass_of_methodNamed B.named
  have hlocks := B.notSynchronized
  subst hsz
  have hD := hD0.self (sz := s.heap.size)
  generalize hAe : va_A [(h0, .inr (12, zf 212 f0))] s.heap.size = A at hD ⊢
  have hA : ∀ q : Nat, s.heap.size ≤ q → A q := fun q h => by rw [← hAe]; exact Or.inr h
  have hS : va_S A s.heap s.heap [] := va_S.rf
  have hP : va_P D vwCl [(h0, .inr (12, zf 212 f0))] s.heap := hP
  have hl := lv_entry ([.ref h0, .int n0, .int n1]) (n := 6) (Nat.le_of_ble_eq_true rfl)
  rw [lg_entry_eq]
  generalize (lg_sl ([.ref h0, .int n0, .int n1]) ++ List.replicate (6 - (lg_sl ([.ref h0, .int n0, .int n1])).length) Slot.unset).toArray = ls at hl ⊢
  have hl : lv_has ls 6 [(0, .ref h0), (1, .int n0), (2, .int n1)] := hl
  refine lv_aload_n hx hb dX12_state_0 rfl (lv_at hl 0 rfl) ?_
  refine y_get (T := TX12) (N := 212) (ci := 12) hx hb hts (zi_12 _) hown hK hP 0 rfl rfl 196 (by decide) tX12_196 (hts _ (zm_637 _)) rfl h0_196 dX12_state_1 ?_
  refine lv_if_eq (tgt := 10) hx hb dX12_state_4 (by decide) (fun _ => ?_) (fun c9 => absurd (by decide) c9)
  refine lv_iload_n hx hb dX12_state_10 rfl (lv_at hl 1 rfl) ?_
  refine lv_if_lt (tgt := 32) hx hb dX12_state_11 (by decide) (fun c_1 => ?_) (fun c_1 => ?_)
  · skip
    refine lv_iconst (v := (-1)) hx hb dX12_state_32 (by decide) ?_
    refine W.widen (k := 0) (n := 0) (Nat.le_of_ble_eq_true rfl) (Nat.le_of_ble_eq_true rfl) ?_
    exact W.iret (v := (-1)) hx hb hr (fun t ht hW => ⟨⟨_, (), rfl, rfl, trivial⟩, hS.F ht⟩) hS.2.2 dX12_state_33
  · skip
    refine lv_iload_n hx hb dX12_state_14 rfl (lv_at hl 1 rfl) ?_
    refine lv_aload_n hx hb dX12_state_15 rfl (lv_at hl 0 rfl) ?_
    refine y_get (T := TX12) (N := 212) (ci := 12) hx hb hts (zi_12 _) hown hK hP 0 rfl rfl 104 (by decide) tX12_104 (hts _ (zm_660 _)) rfl h0_104 dX12_state_16 ?_
    refine lv_icmp_ge (tgt := 32) hx hb dX12_state_19 (by decide) (fun _ => ?_) (fun c9 => absurd ((z_ge0 c_1)) c9)
    refine lv_iconst (v := (-1)) hx hb dX12_state_32 (by decide) ?_
    refine W.widen (k := 0) (n := 0) (Nat.le_of_ble_eq_true rfl) (Nat.le_of_ble_eq_true rfl) ?_
    exact W.iret (v := (-1)) hx hb hr (fun t ht hW => ⟨⟨_, (), rfl, rfl, trivial⟩, hS.F ht⟩) hS.2.2 dX12_state_33

set_option maxHeartbeats 8000000 in
set_option maxRecDepth 100000 in
/--  -/
theorem r_written (l : Launch) (D : va_G) (x : Nat → ClassId) (n0 : Int32) (n1 : Int32) (h0 : Nat) (f0 : Nat → Value) (sz : Nat) (h0_104 : f0 104 = .int 0) (h0_196 : f0 196 = .int 0) : Met l yX12_written (.code yX12_written cX12_written 4 (some .int) :: zW) ({ frames := 0, cells := (0), slots := (0), locals := 0 }) (va_Pc [.ref h0, .int n0, .int n1] (fun U => U.heap.size = sz ∧ va_P D vwCl [(h0, .inr (12, zf 212 f0))] U.heap ∧ zK x D U ∧ va_D (fun _ => True) [(h0, .inr (12, zf 212 f0))])) (va_Qi (fun (r : Int32) (u : Unit) => r = (-1)) (fun u t => True) (va_A [(h0, .inr (12, zf 212 f0))] sz)) (0) (0) (va_A [(h0, .inr (12, zf 212 f0))] sz) := by
  refine Met.ofW (cc := cX12_written) (maxL := 4) (ret := (some .int)) (by decide) rfl ?_
  intro p e s m args below meth c s₁ B hml hv
  obtain ⟨rfl, hsz, hP, hZ, hD0⟩ := hv
  have hK := hZ.1
  have hx := B.exec
  have hb := B.bytes
  have hr := B.returns
  have hts := atoms_spec (ws := .code yX12_written cX12_written 4 (some .int) :: zW) B.pre
  have hown : s.vm.findClass RX12 = some m.cls := findClass_of_methodNamed B.named
  have hlocks := B.notSynchronized
  subst hsz
  have hD := hD0.self (sz := s.heap.size)
  generalize hAe : va_A [(h0, .inr (12, zf 212 f0))] s.heap.size = A at hD ⊢
  have hA : ∀ q : Nat, s.heap.size ≤ q → A q := fun q h => by rw [← hAe]; exact Or.inr h
  have hS : va_S A s.heap s.heap [] := va_S.rf
  have hP : va_P D vwCl [(h0, .inr (12, zf 212 f0))] s.heap := hP
  have hl := lv_entry ([.ref h0, .int n0, .int n1]) (n := 4) (Nat.le_of_ble_eq_true rfl)
  rw [lg_entry_eq]
  generalize (lg_sl ([.ref h0, .int n0, .int n1]) ++ List.replicate (4 - (lg_sl ([.ref h0, .int n0, .int n1])).length) Slot.unset).toArray = ls at hl ⊢
  have hl : lv_has ls 4 [(0, .ref h0), (1, .int n0), (2, .int n1)] := hl
  refine lv_aload_n hx hb dX12_written_0 rfl (lv_at hl 0 rfl) ?_
  refine y_get (T := TX12) (N := 212) (ci := 12) hx hb hts (zi_12 _) hown hK hP 0 rfl rfl 196 (by decide) tX12_196 (hts _ (zm_637 _)) rfl h0_196 dX12_written_1 ?_
  refine lv_if_eq (tgt := 10) hx hb dX12_written_4 (by decide) (fun _ => ?_) (fun c9 => absurd (by decide) c9)
  refine lv_iload_n hx hb dX12_written_10 rfl (lv_at hl 1 rfl) ?_
  refine lv_if_lt (tgt := 56) hx hb dX12_written_11 (by decide) (fun c_1 => ?_) (fun c_1 => ?_)
  · skip
    refine lv_iconst (v := 0) hx hb dX12_written_56 (by decide) ?_
    refine lv_istore_n (lv' := [(3, .int 0), (0, .ref h0), (1, .int n0), (2, .int n1)]) hx hb dX12_written_57 rfl hl (by decide) rfl (fun ls hl => ?_)
    refine lv_iload_n hx hb dX12_written_58 rfl (lv_at hl 0 rfl) ?_
    refine lv_if_eq (tgt := 81) hx hb dX12_written_59 (by decide) (fun _ => ?_) (fun c9 => absurd (by decide) c9)
    refine lv_iconst (v := (-1)) hx hb dX12_written_81 (by decide) ?_
    refine W.widen (k := 0) (n := 0) (Nat.le_of_ble_eq_true rfl) (Nat.le_of_ble_eq_true rfl) ?_
    exact W.iret (v := (-1)) hx hb hr (fun t ht hW => ⟨⟨_, (), rfl, rfl, trivial⟩, hS.F ht⟩) hS.2.2 dX12_written_82
  · skip
    refine lv_iload_n hx hb dX12_written_14 rfl (lv_at hl 1 rfl) ?_
    refine lv_aload_n hx hb dX12_written_15 rfl (lv_at hl 0 rfl) ?_
    refine y_get (T := TX12) (N := 212) (ci := 12) hx hb hts (zi_12 _) hown hK hP 0 rfl rfl 104 (by decide) tX12_104 (hts _ (zm_660 _)) rfl h0_104 dX12_written_16 ?_
    refine lv_icmp_ge (tgt := 56) hx hb dX12_written_19 (by decide) (fun _ => ?_) (fun c9 => absurd ((z_ge0 c_1)) c9)
    refine lv_iconst (v := 0) hx hb dX12_written_56 (by decide) ?_
    refine lv_istore_n (lv' := [(3, .int 0), (0, .ref h0), (1, .int n0), (2, .int n1)]) hx hb dX12_written_57 rfl hl (by decide) rfl (fun ls hl => ?_)
    refine lv_iload_n hx hb dX12_written_58 rfl (lv_at hl 0 rfl) ?_
    refine lv_if_eq (tgt := 81) hx hb dX12_written_59 (by decide) (fun _ => ?_) (fun c9 => absurd (by decide) c9)
    refine lv_iconst (v := (-1)) hx hb dX12_written_81 (by decide) ?_
    refine W.widen (k := 0) (n := 0) (Nat.le_of_ble_eq_true rfl) (Nat.le_of_ble_eq_true rfl) ?_
    exact W.iret (v := (-1)) hx hb hr (fun t ht hW => ⟨⟨_, (), rfl, rfl, trivial⟩, hS.F ht⟩) hS.2.2 dX12_written_82

set_option maxHeartbeats 8000000 in
set_option maxRecDepth 100000 in
/--  -/
theorem r_level (l : Launch) (D : va_G) (x : Nat → ClassId) (n0 : Int32) (n1 : Int32) (n2 : Int32) (h0 : Nat) (f0 : Nat → Value) (sz : Nat) (h0_104 : f0 104 = .int 0) (h0_196 : f0 196 = .int 0) : Met l yX12_level_ (.code yX12_level_ cX12_level_ 6 (some .int) :: zW) ({ frames := 1, cells := (0), slots := (0), locals := 21 }) (va_Pc [.ref h0, .int n0, .int n1, .int n2] (fun U => U.heap.size = sz ∧ va_P D vwCl [(h0, .inr (12, zf 212 f0))] U.heap ∧ zK x D U ∧ va_D (fun _ => True) [(h0, .inr (12, zf 212 f0))])) (va_Qi (fun (r : Int32) (u : Unit) => r = (-1)) (fun u t => True) (va_A [(h0, .inr (12, zf 212 f0))] sz)) (0) (0) (va_A [(h0, .inr (12, zf 212 f0))] sz) := by
  refine Met.ofW (cc := cX12_level_) (maxL := 6) (ret := (some .int)) (by decide) rfl ?_
  intro p e s m args below meth c s₁ B hml hv
  obtain ⟨rfl, hsz, hP, hZ, hD0⟩ := hv
  have hK := hZ.1
  have hx := B.exec
  have hb := B.bytes
  have hr := B.returns
  have hts := atoms_spec (ws := .code yX12_level_ cX12_level_ 6 (some .int) :: zW) B.pre
  have hown : s.vm.findClass RX12 = some m.cls := findClass_of_methodNamed B.named
  have hlocks := B.notSynchronized
  subst hsz
  have hD := hD0.self (sz := s.heap.size)
  generalize hAe : va_A [(h0, .inr (12, zf 212 f0))] s.heap.size = A at hD ⊢
  have hA : ∀ q : Nat, s.heap.size ≤ q → A q := fun q h => by rw [← hAe]; exact Or.inr h
  have hS : va_S A s.heap s.heap [] := va_S.rf
  have hP : va_P D vwCl [(h0, .inr (12, zf 212 f0))] s.heap := hP
  have hl := lv_entry ([.ref h0, .int n0, .int n1, .int n2]) (n := 6) (Nat.le_of_ble_eq_true rfl)
  rw [lg_entry_eq]
  generalize (lg_sl ([.ref h0, .int n0, .int n1, .int n2]) ++ List.replicate (6 - (lg_sl ([.ref h0, .int n0, .int n1, .int n2])).length) Slot.unset).toArray = ls at hl ⊢
  have hl : lv_has ls 6 [(0, .ref h0), (1, .int n0), (2, .int n1), (3, .int n2)] := hl
  refine lv_aload_n hx hb dX12_level__0 rfl (lv_at hl 0 rfl) ?_
  refine y_get (T := TX12) (N := 212) (ci := 12) hx hb hts (zi_12 _) hown hK hP 0 rfl rfl 196 (by decide) tX12_196 (hts _ (zm_637 _)) rfl h0_196 dX12_level__1 ?_
  refine lv_if_eq (tgt := 10) hx hb dX12_level__4 (by decide) (fun _ => ?_) (fun c9 => absurd (by decide) c9)
  refine lv_aload_n hx hb dX12_level__10 rfl (lv_at hl 0 rfl) ?_
  refine lv_iload_n hx hb dX12_level__11 rfl (lv_at hl 1 rfl) ?_
  have hPc := hP.sub (ws' := [(h0, .inr (12, zf 212 f0))]) [0] rfl
  have hDc := hD.sub (ws' := [(h0, .inr (12, zf 212 f0))]) [0] (by decide) rfl
  have hFc := va_free (wc := [(h0, .inr (12, zf 212 f0))]) hD hS hA [0] rfl
  have h_2 : 0 + 0 ≤ 0 ∧ 0 + 0 ≤ 0 := by omega
  refine va_calli (va_runV (As := [.int n0]) (rest := []) ⟨hx, hb, hml, hown, hts⟩ (r_isLiving l D x n0 h0 f0 s.heap.size h0_104) ⟨callB_of 1 hts (zgood (zm_785 _) rfl) rfl rfl rfl (hts _ (zm_459 _)) (hts _ (zm_671 _)) ⟨by decide, by decide, by decide +kernel⟩ ⟨Nat.le_of_ble_eq_true rfl, Nat.le_of_ble_eq_true rfl⟩, hts _ (zm_786 _), hts _ (zm_787 _)⟩ ⟨fun a U g mk q => by obtain ⟨q0, q1, qP, qK, qD⟩ := q; exact ⟨q0, q1, qP, ZK.calling (u := U) zN_ok rfl qK, qD⟩, va_recv hK hPc (ci := 12) (q0 := 0) rfl rfl, fun U hU hW => ⟨rfl, by rw [hU], by rw [hU]; exact hPc, ZK.warm zN_ok hW hZ, hDc.weaken (fun _ _ _ _ => trivial)⟩⟩ rfl rfl hl.1 rfl (lv_room (Nat.le_of_ble_eq_true rfl)) dX12_level__12 h_2) hS (fun q _ h => hFc q h) hFc (fun r_1 u t H1 locs ht hvm hw_1 hB hz1 hk1 hS => ?_)
  obtain ⟨hP1, hD1⟩ := hB
  rw [ht] at hP1
  try dsimp only at hw_1
  obtain ⟨hP, hD⟩ := va_join (wr := []) (w1 := [(h0, .inr (12, zf 212 f0))]) hP hD [0] [] rfl rfl (by decide) (by decide) hk1 hFc hP1 hD1
  generalize H1 = H at hP hS ⊢
  have hP : va_P D vwCl [(h0, .inr (12, zf 212 f0))] H := hP
  have hD : va_D A [(h0, .inr (12, zf 212 f0))] := hD
  refine W.widen (k := 0) (n := 0) (by omega) (by omega) ?_
  obtain rfl : r_1 = 0 := hw_1
  refine lv_if_eq (tgt := 46) hx hb dX12_level__15 (by decide) (fun _ => ?_) (fun c9 => absurd (by decide) c9)
  refine lv_iconst (v := (-1)) hx hb dX12_level__46 (by decide) ?_
  refine W.widen (k := 0) (n := 0) (Nat.le_of_ble_eq_true rfl) (Nat.le_of_ble_eq_true rfl) ?_
  exact W.iret (v := (-1)) hx hb hr (fun t ht hW => ⟨⟨_, (), rfl, rfl, trivial⟩, hS.F ht⟩) hS.2.2 dX12_level__47

set_option maxHeartbeats 8000000 in
set_option maxRecDepth 100000 in
/--  -/
theorem r_tell (l : Launch) (D : va_G) (x : Nat → ClassId) (n0 : Int32) (h0 : Nat) (f0 : Nat → Value) (sz : Nat) (h0_104 : f0 104 = .int 0) (h0_195 : f0 195 = .int 0) (h0_196 : f0 196 = .int 0) : Met l yX12_tell (.code yX12_tell cX12_tell 6 (some .int) :: zW) ({ frames := 1, cells := (0), slots := (0), locals := 21 }) (va_Pc [.ref h0, .int n0] (fun U => U.heap.size = sz ∧ va_P D vwCl [(h0, .inr (12, zf 212 f0))] U.heap ∧ zK x D U ∧ va_D (fun _ => True) [(h0, .inr (12, zf 212 f0))])) (va_Qi (fun (r : Int32) (u : Unit) => r = (-1)) (fun u t => True) (va_A [(h0, .inr (12, zf 212 f0))] sz)) (0) (0) (va_A [(h0, .inr (12, zf 212 f0))] sz) := by
  refine Met.ofW (cc := cX12_tell) (maxL := 6) (ret := (some .int)) (by decide) rfl ?_
  intro p e s m args below meth c s₁ B hml hv
  obtain ⟨rfl, hsz, hP, hZ, hD0⟩ := hv
  have hK := hZ.1
  have hx := B.exec
  have hb := B.bytes
  have hr := B.returns
  have hts := atoms_spec (ws := .code yX12_tell cX12_tell 6 (some .int) :: zW) B.pre
  have hown : s.vm.findClass RX12 = some m.cls := findClass_of_methodNamed B.named
  have hlocks := B.notSynchronized
  subst hsz
  have hD := hD0.self (sz := s.heap.size)
  generalize hAe : va_A [(h0, .inr (12, zf 212 f0))] s.heap.size = A at hD ⊢
  have hA : ∀ q : Nat, s.heap.size ≤ q → A q := fun q h => by rw [← hAe]; exact Or.inr h
  have hS : va_S A s.heap s.heap [] := va_S.rf
  have hP : va_P D vwCl [(h0, .inr (12, zf 212 f0))] s.heap := hP
  have hl := lv_entry ([.ref h0, .int n0]) (n := 6) (Nat.le_of_ble_eq_true rfl)
  rw [lg_entry_eq]
  generalize (lg_sl ([.ref h0, .int n0]) ++ List.replicate (6 - (lg_sl ([.ref h0, .int n0])).length) Slot.unset).toArray = ls at hl ⊢
  have hl : lv_has ls 6 [(0, .ref h0), (1, .int n0)] := hl
  refine lv_aload_n hx hb dX12_tell_0 rfl (lv_at hl 0 rfl) ?_
  refine y_get (T := TX12) (N := 212) (ci := 12) hx hb hts (zi_12 _) hown hK hP 0 rfl rfl 196 (by decide) tX12_196 (hts _ (zm_637 _)) rfl h0_196 dX12_tell_1 ?_
  refine lv_if_eq (tgt := 10) hx hb dX12_tell_4 (by decide) (fun _ => ?_) (fun c9 => absurd (by decide) c9)
  refine lv_aload_n hx hb dX12_tell_10 rfl (lv_at hl 0 rfl) ?_
  refine y_get (T := TX12) (N := 212) (ci := 12) hx hb hts (zi_12 _) hown hK hP 0 rfl rfl 195 (by decide) tX12_195 (hts _ (zm_630 _)) rfl h0_195 dX12_tell_11 ?_
  refine lv_istore_n (lv' := [(2, .int 0), (0, .ref h0), (1, .int n0)]) hx hb dX12_tell_14 rfl hl (by decide) rfl (fun ls hl => ?_)
  refine lv_aload_n hx hb dX12_tell_15 rfl (lv_at hl 1 rfl) ?_
  refine lv_iconst (v := 0) hx hb dX12_tell_16 (by decide) ?_
  refine y_put (T := TX12) (N := 212) (ci := 12) hx hb hts (zi_12 _) hown hK hP hD hS 0 rfl rfl 195 (by decide) tX12_195 uX12_195 (hts _ (zm_630 _)) rfl rfl rfl dX12_tell_17 (fun H locs f_1 ek_2 ok_3 hP hD hS => ?_)
  have hP : va_P D vwCl [(h0, .inr (12, zf 212 f_1))] H := hP
  have hD : va_D A [(h0, .inr (12, zf 212 f_1))] := hD
  refine lv_aload_n hx hb dX12_tell_20 rfl (lv_at hl 1 rfl) ?_
  refine lv_iload_n hx hb dX12_tell_21 rfl (lv_at hl 2 rfl) ?_
  have hPc := hP.sub (ws' := [(h0, .inr (12, zf 212 f_1))]) [0] rfl
  have hDc := hD.sub (ws' := [(h0, .inr (12, zf 212 f_1))]) [0] (by decide) rfl
  have hFc := va_free (wc := [(h0, .inr (12, zf 212 f_1))]) hD hS hA [0] rfl
  have h_5 : 0 + 0 ≤ 0 ∧ 0 + 0 ≤ 0 := by omega
  refine va_calli (va_runV (As := [.int n0]) (rest := []) ⟨hx, hb, hml, hown, hts⟩ (r_isLiving l D x n0 h0 f_1 H.size ((ok_3 104 (by decide)).trans h0_104)) ⟨callB_of 1 hts (zgood (zm_785 _) rfl) rfl rfl rfl (hts _ (zm_459 _)) (hts _ (zm_671 _)) ⟨by decide, by decide, by decide +kernel⟩ ⟨Nat.le_of_ble_eq_true rfl, Nat.le_of_ble_eq_true rfl⟩, hts _ (zm_786 _), hts _ (zm_787 _)⟩ ⟨fun a U g mk q => by obtain ⟨q0, q1, qP, qK, qD⟩ := q; exact ⟨q0, q1, qP, ZK.calling (u := U) zN_ok rfl qK, qD⟩, va_recv hK hPc (ci := 12) (q0 := 0) rfl rfl, fun U hU hW => ⟨rfl, by rw [hU], by rw [hU]; exact hPc, ZK.warm zN_ok hW hZ, hDc.weaken (fun _ _ _ _ => trivial)⟩⟩ rfl rfl hl.1 rfl (lv_room (Nat.le_of_ble_eq_true rfl)) dX12_tell_22 h_5) hS (fun q _ h => hFc q h) hFc (fun r_4 u t H1 locs ht hvm hw_4 hB hz1 hk1 hS => ?_)
  obtain ⟨hP1, hD1⟩ := hB
  rw [ht] at hP1
  try dsimp only at hw_4
  obtain ⟨hP, hD⟩ := va_join (wr := []) (w1 := [(h0, .inr (12, zf 212 f_1))]) hP hD [0] [] rfl rfl (by decide) (by decide) hk1 hFc hP1 hD1
  generalize H1 = H at hP hS ⊢
  have hP : va_P D vwCl [(h0, .inr (12, zf 212 f_1))] H := hP
  have hD : va_D A [(h0, .inr (12, zf 212 f_1))] := hD
  refine W.widen (k := 0) (n := 0) (by omega) (by omega) ?_
  obtain rfl : r_4 = 0 := hw_4
  refine lv_if_ne (tgt := 30) hx hb dX12_tell_25 (by decide) (fun c9 => absurd (by decide) c9) (fun _ => ?_)
  refine lv_iconst (v := (-1)) hx hb dX12_tell_28 (by decide) ?_
  refine W.widen (k := 0) (n := 0) (Nat.le_of_ble_eq_true rfl) (Nat.le_of_ble_eq_true rfl) ?_
  exact W.iret (v := (-1)) hx hb hr (fun t ht hW => ⟨⟨_, (), rfl, rfl, trivial⟩, hS.F ht⟩) hS.2.2 dX12_tell_29

set_option maxHeartbeats 8000000 in
set_option maxRecDepth 100000 in
/--  -/
theorem r_result (l : Launch) (D : va_G) (x : Nat → ClassId) (n0 : Int32) (h0 : Nat) (f0 : Nat → Value) (sz : Nat) (h0_200 : f0 200 = .int 0) : Met l yX12_result (.code yX12_result cX12_result 2 (some .int) :: zW) ({ frames := 0, cells := (0), slots := (0), locals := 0 }) (va_Pc [.ref h0, .int n0] (fun U => U.heap.size = sz ∧ va_P D vwCl [(h0, .inr (12, zf 212 f0))] U.heap ∧ zK x D U ∧ va_D (fun _ => True) [(h0, .inr (12, zf 212 f0))])) (va_Qi (fun (r : Int32) (u : Unit) => r = (-1)) (fun u t => True) (va_A [(h0, .inr (12, zf 212 f0))] sz)) (0) (0) (va_A [(h0, .inr (12, zf 212 f0))] sz) := by
  refine Met.ofW (cc := cX12_result) (maxL := 2) (ret := (some .int)) (by decide) rfl ?_
  intro p e s m args below meth c s₁ B hml hv
  obtain ⟨rfl, hsz, hP, hZ, hD0⟩ := hv
  have hK := hZ.1
  have hx := B.exec
  have hb := B.bytes
  have hr := B.returns
  have hts := atoms_spec (ws := .code yX12_result cX12_result 2 (some .int) :: zW) B.pre
  have hown : s.vm.findClass RX12 = some m.cls := findClass_of_methodNamed B.named
  have hlocks := B.notSynchronized
  subst hsz
  have hD := hD0.self (sz := s.heap.size)
  generalize hAe : va_A [(h0, .inr (12, zf 212 f0))] s.heap.size = A at hD ⊢
  have hA : ∀ q : Nat, s.heap.size ≤ q → A q := fun q h => by rw [← hAe]; exact Or.inr h
  have hS : va_S A s.heap s.heap [] := va_S.rf
  have hP : va_P D vwCl [(h0, .inr (12, zf 212 f0))] s.heap := hP
  have hl := lv_entry ([.ref h0, .int n0]) (n := 2) (Nat.le_of_ble_eq_true rfl)
  rw [lg_entry_eq]
  generalize (lg_sl ([.ref h0, .int n0]) ++ List.replicate (2 - (lg_sl ([.ref h0, .int n0])).length) Slot.unset).toArray = ls at hl ⊢
  have hl : lv_has ls 2 [(0, .ref h0), (1, .int n0)] := hl
  refine lv_iload_n hx hb dX12_result_0 rfl (lv_at hl 1 rfl) ?_
  refine lv_if_lt (tgt := 25) hx hb dX12_result_1 (by decide) (fun c_1 => ?_) (fun c_1 => ?_)
  · skip
    refine lv_iconst (v := (-1)) hx hb dX12_result_25 (by decide) ?_
    refine W.widen (k := 0) (n := 0) (Nat.le_of_ble_eq_true rfl) (Nat.le_of_ble_eq_true rfl) ?_
    exact W.iret (v := (-1)) hx hb hr (fun t ht hW => ⟨⟨_, (), rfl, rfl, trivial⟩, hS.F ht⟩) hS.2.2 dX12_result_26
  · skip
    refine lv_iload_n hx hb dX12_result_4 rfl (lv_at hl 1 rfl) ?_
    refine lv_aload_n hx hb dX12_result_5 rfl (lv_at hl 0 rfl) ?_
    refine y_get (T := TX12) (N := 212) (ci := 12) hx hb hts (zi_12 _) hown hK hP 0 rfl rfl 200 (by decide) tX12_200 (hts _ (zm_709 _)) rfl h0_200 dX12_result_6 ?_
    refine lv_icmp_ge (tgt := 25) hx hb dX12_result_9 (by decide) (fun _ => ?_) (fun c9 => absurd ((z_ge0 c_1)) c9)
    refine lv_iconst (v := (-1)) hx hb dX12_result_25 (by decide) ?_
    refine W.widen (k := 0) (n := 0) (Nat.le_of_ble_eq_true rfl) (Nat.le_of_ble_eq_true rfl) ?_
    exact W.iret (v := (-1)) hx hb hr (fun t ht hW => ⟨⟨_, (), rfl, rfl, trivial⟩, hS.F ht⟩) hS.2.2 dX12_result_26

set_option maxHeartbeats 8000000 in
set_option maxRecDepth 100000 in
/--  -/
theorem r_lock (l : Launch) (D : va_G) (x : Nat → ClassId) (n0 : Int32) (n1 : Int32) (h0 : Nat) (f0 : Nat → Value) (sz : Nat) (h0_161 : f0 161 = .int 0) (h0_196 : f0 196 = .int 0) : Met l yX12_lock__ (.code yX12_lock__ cX12_lock__ 7 (some .int) :: zW) ({ frames := 0, cells := (0), slots := (0), locals := 0 }) (va_Pc [.ref h0, .int n0, .int n1] (fun U => U.heap.size = sz ∧ va_P D vwCl [(h0, .inr (12, zf 212 f0))] U.heap ∧ zK x D U ∧ va_D (fun _ => True) [(h0, .inr (12, zf 212 f0))])) (va_Qi (fun (r : Int32) (u : Unit) => r = (-1)) (fun u t => True) (va_A [(h0, .inr (12, zf 212 f0))] sz)) (0) (0) (va_A [(h0, .inr (12, zf 212 f0))] sz) := by
  refine Met.ofW (cc := cX12_lock__) (maxL := 7) (ret := (some .int)) (by decide) rfl ?_
  intro p e s m args below meth c s₁ B hml hv
  obtain ⟨rfl, hsz, hP, hZ, hD0⟩ := hv
  have hK := hZ.1
  have hx := B.exec
  have hb := B.bytes
  have hr := B.returns
  have hts := atoms_spec (ws := .code yX12_lock__ cX12_lock__ 7 (some .int) :: zW) B.pre
  have hown : s.vm.findClass RX12 = some m.cls := findClass_of_methodNamed B.named
  have hlocks := B.notSynchronized
  subst hsz
  have hD := hD0.self (sz := s.heap.size)
  generalize hAe : va_A [(h0, .inr (12, zf 212 f0))] s.heap.size = A at hD ⊢
  have hA : ∀ q : Nat, s.heap.size ≤ q → A q := fun q h => by rw [← hAe]; exact Or.inr h
  have hS : va_S A s.heap s.heap [] := va_S.rf
  have hP : va_P D vwCl [(h0, .inr (12, zf 212 f0))] s.heap := hP
  have hl := lv_entry ([.ref h0, .int n0, .int n1]) (n := 7) (Nat.le_of_ble_eq_true rfl)
  rw [lg_entry_eq]
  generalize (lg_sl ([.ref h0, .int n0, .int n1]) ++ List.replicate (7 - (lg_sl ([.ref h0, .int n0, .int n1])).length) Slot.unset).toArray = ls at hl ⊢
  have hl : lv_has ls 7 [(0, .ref h0), (1, .int n0), (2, .int n1)] := hl
  refine lv_aload_n hx hb dX12_lock___0 rfl (lv_at hl 0 rfl) ?_
  refine y_get (T := TX12) (N := 212) (ci := 12) hx hb hts (zi_12 _) hown hK hP 0 rfl rfl 196 (by decide) tX12_196 (hts _ (zm_637 _)) rfl h0_196 dX12_lock___1 ?_
  refine lv_if_eq (tgt := 10) hx hb dX12_lock___4 (by decide) (fun _ => ?_) (fun c9 => absurd (by decide) c9)
  refine lv_iload_n hx hb dX12_lock___10 rfl (lv_at hl 1 rfl) ?_
  refine lv_if_lt (tgt := 31) hx hb dX12_lock___11 (by decide) (fun c_1 => ?_) (fun c_1 => ?_)
  · skip
    refine lv_iconst (v := (-1)) hx hb dX12_lock___31 (by decide) ?_
    refine W.widen (k := 0) (n := 0) (Nat.le_of_ble_eq_true rfl) (Nat.le_of_ble_eq_true rfl) ?_
    exact W.iret (v := (-1)) hx hb hr (fun t ht hW => ⟨⟨_, (), rfl, rfl, trivial⟩, hS.F ht⟩) hS.2.2 dX12_lock___32
  · skip
    refine lv_iload_n hx hb dX12_lock___14 rfl (lv_at hl 1 rfl) ?_
    refine lv_aload_n hx hb dX12_lock___15 rfl (lv_at hl 0 rfl) ?_
    refine y_get (T := TX12) (N := 212) (ci := 12) hx hb hts (zi_12 _) hown hK hP 0 rfl rfl 161 (by decide) tX12_161 (hts _ (zm_697 _)) rfl h0_161 dX12_lock___16 ?_
    refine lv_icmp_ge (tgt := 31) hx hb dX12_lock___19 (by decide) (fun _ => ?_) (fun c9 => absurd ((z_ge0 c_1)) c9)
    refine lv_iconst (v := (-1)) hx hb dX12_lock___31 (by decide) ?_
    refine W.widen (k := 0) (n := 0) (Nat.le_of_ble_eq_true rfl) (Nat.le_of_ble_eq_true rfl) ?_
    exact W.iret (v := (-1)) hx hb hr (fun t ht hW => ⟨⟨_, (), rfl, rfl, trivial⟩, hS.F ht⟩) hS.2.2 dX12_lock___32

set_option maxHeartbeats 8000000 in
set_option maxRecDepth 100000 in
/--  -/
theorem r_sound (l : Launch) (D : va_G) (x : Nat → ClassId) (h0 : Nat) (f0 : Nat → Value) (sz : Nat) (h0_196 : f0 196 = .int 0) : Met l yX12_sound (.code yX12_sound cX12_sound 1 (some .int) :: zW) ({ frames := 0, cells := (0), slots := (0), locals := 0 }) (va_Pc [.ref h0] (fun U => U.heap.size = sz ∧ va_P D vwCl [(h0, .inr (12, zf 212 f0))] U.heap ∧ zK x D U ∧ va_D (fun _ => True) [(h0, .inr (12, zf 212 f0))])) (va_Qi (fun (r : Int32) (u : Unit) => r = 1) (fun u t => True) (va_A [(h0, .inr (12, zf 212 f0))] sz)) (0) (0) (va_A [(h0, .inr (12, zf 212 f0))] sz) := by
  refine Met.ofW (cc := cX12_sound) (maxL := 1) (ret := (some .int)) (by decide) rfl ?_
  intro p e s m args below meth c s₁ B hml hv
  obtain ⟨rfl, hsz, hP, hZ, hD0⟩ := hv
  have hK := hZ.1
  have hx := B.exec
  have hb := B.bytes
  have hr := B.returns
  have hts := atoms_spec (ws := .code yX12_sound cX12_sound 1 (some .int) :: zW) B.pre
  have hown : s.vm.findClass RX12 = some m.cls := findClass_of_methodNamed B.named
  have hlocks := B.notSynchronized
  subst hsz
  have hD := hD0.self (sz := s.heap.size)
  generalize hAe : va_A [(h0, .inr (12, zf 212 f0))] s.heap.size = A at hD ⊢
  have hA : ∀ q : Nat, s.heap.size ≤ q → A q := fun q h => by rw [← hAe]; exact Or.inr h
  have hS : va_S A s.heap s.heap [] := va_S.rf
  have hP : va_P D vwCl [(h0, .inr (12, zf 212 f0))] s.heap := hP
  have hl := lv_entry ([.ref h0]) (n := 1) (Nat.le_of_ble_eq_true rfl)
  rw [lg_entry_eq]
  generalize (lg_sl ([.ref h0]) ++ List.replicate (1 - (lg_sl ([.ref h0])).length) Slot.unset).toArray = ls at hl ⊢
  have hl : lv_has ls 1 [(0, .ref h0)] := hl
  refine lv_aload_n hx hb dX12_sound_0 rfl (lv_at hl 0 rfl) ?_
  refine y_get (T := TX12) (N := 212) (ci := 12) hx hb hts (zi_12 _) hown hK hP 0 rfl rfl 196 (by decide) tX12_196 (hts _ (zm_637 _)) rfl h0_196 dX12_sound_1 ?_
  refine lv_if_eq (tgt := 12) hx hb dX12_sound_4 (by decide) (fun _ => ?_) (fun c9 => absurd (by decide) c9)
  refine lv_iconst (v := 1) hx hb dX12_sound_12 (by decide) ?_
  refine W.widen (k := 0) (n := 0) (Nat.le_of_ble_eq_true rfl) (Nat.le_of_ble_eq_true rfl) ?_
  exact W.iret (v := 1) hx hb hr (fun t ht hW => ⟨⟨_, (), rfl, rfl, trivial⟩, hS.F ht⟩) hS.2.2 dX12_sound_13

set_option maxHeartbeats 8000000 in
set_option maxRecDepth 100000 in
/--  -/
theorem r_sync (l : Launch) (D : va_G) (x : Nat → ClassId) (h0 : Nat) (f0 : Nat → Value) (sz : Nat) (h0_85 : f0 85 = .int 0) (h0_83 : f0 83 = .int 0) (h0_196 : f0 196 = .int 0) : Met l yX12_sync (.code yX12_sync cX12_sync 9 (some .int) :: zW) ({ frames := 0, cells := (0), slots := (0), locals := 0 }) (va_Pc [.ref h0] (fun U => U.heap.size = sz ∧ va_P D vwCl [(h0, .inr (12, zf 212 f0))] U.heap ∧ zK x D U ∧ va_D (fun _ => True) [(h0, .inr (12, zf 212 f0))])) (va_Qi (fun (r : Int32) (u : Unit) => r = 0) (fun u t => True) (va_A [(h0, .inr (12, zf 212 f0))] sz)) (0) (0) (va_A [(h0, .inr (12, zf 212 f0))] sz) := by
  refine Met.ofW (cc := cX12_sync) (maxL := 9) (ret := (some .int)) (by decide) rfl ?_
  intro p e s m args below meth c s₁ B hml hv
  obtain ⟨rfl, hsz, hP, hZ, hD0⟩ := hv
  have hK := hZ.1
  have hx := B.exec
  have hb := B.bytes
  have hr := B.returns
  have hts := atoms_spec (ws := .code yX12_sync cX12_sync 9 (some .int) :: zW) B.pre
  have hown : s.vm.findClass RX12 = some m.cls := findClass_of_methodNamed B.named
  have hlocks := B.notSynchronized
  subst hsz
  have hD := hD0.self (sz := s.heap.size)
  generalize hAe : va_A [(h0, .inr (12, zf 212 f0))] s.heap.size = A at hD ⊢
  have hA : ∀ q : Nat, s.heap.size ≤ q → A q := fun q h => by rw [← hAe]; exact Or.inr h
  have hS : va_S A s.heap s.heap [] := va_S.rf
  have hP : va_P D vwCl [(h0, .inr (12, zf 212 f0))] s.heap := hP
  have hl := lv_entry ([.ref h0]) (n := 9) (Nat.le_of_ble_eq_true rfl)
  rw [lg_entry_eq]
  generalize (lg_sl ([.ref h0]) ++ List.replicate (9 - (lg_sl ([.ref h0])).length) Slot.unset).toArray = ls at hl ⊢
  have hl : lv_has ls 9 [(0, .ref h0)] := hl
  refine lv_aload_n hx hb dX12_sync_0 rfl (lv_at hl 0 rfl) ?_
  refine y_get (T := TX12) (N := 212) (ci := 12) hx hb hts (zi_12 _) hown hK hP 0 rfl rfl 196 (by decide) tX12_196 (hts _ (zm_637 _)) rfl h0_196 dX12_sync_1 ?_
  refine lv_if_eq (tgt := 10) hx hb dX12_sync_4 (by decide) (fun _ => ?_) (fun c9 => absurd (by decide) c9)
  refine lv_iconst (v := 0) hx hb dX12_sync_10 (by decide) ?_
  refine lv_istore_n (lv' := [(1, .int 0), (0, .ref h0)]) hx hb dX12_sync_11 rfl hl (by decide) rfl (fun ls hl => ?_)
  refine lv_iconst (v := 0) hx hb dX12_sync_12 (by decide) ?_
  refine lv_istore_n (lv' := [(2, .int 0), (1, .int 0), (0, .ref h0)]) hx hb dX12_sync_13 rfl hl (by decide) rfl (fun ls hl => ?_)
  refine lv_aload_n hx hb dX12_sync_14 rfl (lv_at hl 2 rfl) ?_
  refine y_get (T := TX12) (N := 212) (ci := 12) hx hb hts (zi_12 _) hown hK hP 0 rfl rfl 83 (by decide) tX12_83 (hts _ (zm_756 _)) rfl h0_83 dX12_sync_15 ?_
  refine lv_istore_n (lv' := [(3, .int 0), (2, .int 0), (1, .int 0), (0, .ref h0)]) hx hb dX12_sync_18 rfl hl (by decide) rfl (fun ls hl => ?_)
  refine lv_iload_n hx hb dX12_sync_19 rfl (lv_at hl 1 rfl) ?_
  refine lv_aload_n hx hb dX12_sync_20 rfl (lv_at hl 3 rfl) ?_
  refine y_get (T := TX12) (N := 212) (ci := 12) hx hb hts (zi_12 _) hown hK hP 0 rfl rfl 85 (by decide) tX12_85 (hts _ (zm_758 _)) rfl h0_85 dX12_sync_21 ?_
  refine lv_icmp_ge (tgt := 340) hx hb dX12_sync_24 (by decide) (fun _ => ?_) (fun c9 => absurd (by decide) c9)
  refine lv_aload_n hx hb dX12_sync_340 rfl (lv_at hl 3 rfl) ?_
  refine lv_dup hx hb dX12_sync_341 rfl ?_
  refine y_get (T := TX12) (N := 212) (ci := 12) hx hb hts (zi_12 _) hown hK hP 0 rfl rfl 83 (by decide) tX12_83 (hts _ (zm_756 _)) rfl h0_83 dX12_sync_342 ?_
  refine lv_iload_n hx hb dX12_sync_345 rfl (lv_at hl 2 rfl) ?_
  refine lv_iadd hx hb dX12_sync_346 ?_
  refine lv_topi (fun y_2 ex_1 => ?_)
  obtain rfl : y_2 = 0 := ex_1.trans (by decide)
  refine y_put (T := TX12) (N := 212) (ci := 12) hx hb hts (zi_12 _) hown hK hP hD hS 0 rfl rfl 83 (by decide) tX12_83 uX12_83 (hts _ (zm_756 _)) rfl rfl rfl dX12_sync_347 (fun H locs f_3 ek_4 ok_5 hP hD hS => ?_)
  have hP : va_P D vwCl [(h0, .inr (12, zf 212 f_3))] H := hP
  have hD : va_D A [(h0, .inr (12, zf 212 f_3))] := hD
  refine lv_aload_n hx hb dX12_sync_350 rfl (lv_at hl 3 rfl) ?_
  refine lv_iconst (v := 0) hx hb dX12_sync_351 (by decide) ?_
  refine y_put (T := TX12) (N := 212) (ci := 12) hx hb hts (zi_12 _) hown hK hP hD hS 0 rfl rfl 85 (by decide) tX12_85 uX12_85 (hts _ (zm_758 _)) rfl rfl rfl dX12_sync_352 (fun H locs f_6 ek_7 ok_8 hP hD hS => ?_)
  have hP : va_P D vwCl [(h0, .inr (12, zf 212 f_6))] H := hP
  have hD : va_D A [(h0, .inr (12, zf 212 f_6))] := hD
  refine lv_aload_n hx hb dX12_sync_355 rfl (lv_at hl 3 rfl) ?_
  refine lv_iconst (v := 0) hx hb dX12_sync_356 (by decide) ?_
  refine y_put (T := TX12) (N := 212) (ci := 12) hx hb hts (zi_12 _) hown hK hP hD hS 0 rfl rfl 86 (by decide) tX12_86 uX12_86 (hts _ (zm_757 _)) rfl rfl rfl dX12_sync_357 (fun H locs f_9 ek_10 ok_11 hP hD hS => ?_)
  have hP : va_P D vwCl [(h0, .inr (12, zf 212 f_9))] H := hP
  have hD : va_D A [(h0, .inr (12, zf 212 f_9))] := hD
  refine lv_iload_n hx hb dX12_sync_360 rfl (lv_at hl 2 rfl) ?_
  refine W.widen (k := 0) (n := 0) (Nat.le_of_ble_eq_true rfl) (Nat.le_of_ble_eq_true rfl) ?_
  exact W.iret (v := 0) hx hb hr (fun t ht hW => ⟨⟨_, (), rfl, rfl, trivial⟩, hS.F ht⟩) hS.2.2 dX12_sync_361

set_option maxHeartbeats 8000000 in
set_option maxRecDepth 100000 in
/--  -/
theorem r_cut (l : Launch) (D : va_G) (x : Nat → ClassId) (n0 : Int32) (n1 : Int32) (h0 : Nat) (f0 : Nat → Value) (sz : Nat) (h0_196 : f0 196 = .int 0) : Met l yX12_cut (.code yX12_cut cX12_cut 3 (some .int) :: zW) ({ frames := 0, cells := (0), slots := (0), locals := 0 }) (va_Pc [.ref h0, .int n0, .int n1] (fun U => U.heap.size = sz ∧ va_P D vwCl [(h0, .inr (12, zf 212 f0))] U.heap ∧ zK x D U ∧ va_D (fun _ => True) [(h0, .inr (12, zf 212 f0))])) (va_Qi (fun (r : Int32) (u : Unit) => r = (zCut n0 n1)) (fun u t => True) (va_A [(h0, .inr (12, zf 212 f0))] sz)) (0) (0) (va_A [(h0, .inr (12, zf 212 f0))] sz) := by
  refine Met.ofW (cc := cX12_cut) (maxL := 3) (ret := (some .int)) (by decide) rfl ?_
  intro p e s m args below meth c s₁ B hml hv
  obtain ⟨rfl, hsz, hP, hZ, hD0⟩ := hv
  have hK := hZ.1
  have hx := B.exec
  have hb := B.bytes
  have hr := B.returns
  have hts := atoms_spec (ws := .code yX12_cut cX12_cut 3 (some .int) :: zW) B.pre
  have hown : s.vm.findClass RX12 = some m.cls := findClass_of_methodNamed B.named
  have hlocks := B.notSynchronized
  subst hsz
  have hD := hD0.self (sz := s.heap.size)
  generalize hAe : va_A [(h0, .inr (12, zf 212 f0))] s.heap.size = A at hD ⊢
  have hA : ∀ q : Nat, s.heap.size ≤ q → A q := fun q h => by rw [← hAe]; exact Or.inr h
  have hS : va_S A s.heap s.heap [] := va_S.rf
  have hP : va_P D vwCl [(h0, .inr (12, zf 212 f0))] s.heap := hP
  have hl := lv_entry ([.ref h0, .int n0, .int n1]) (n := 3) (Nat.le_of_ble_eq_true rfl)
  rw [lg_entry_eq]
  generalize (lg_sl ([.ref h0, .int n0, .int n1]) ++ List.replicate (3 - (lg_sl ([.ref h0, .int n0, .int n1])).length) Slot.unset).toArray = ls at hl ⊢
  have hl : lv_has ls 3 [(0, .ref h0), (1, .int n0), (2, .int n1)] := hl
  refine lv_aload_n hx hb dX12_cut_0 rfl (lv_at hl 0 rfl) ?_
  refine y_get (T := TX12) (N := 212) (ci := 12) hx hb hts (zi_12 _) hown hK hP 0 rfl rfl 196 (by decide) tX12_196 (hts _ (zm_637 _)) rfl h0_196 dX12_cut_1 ?_
  refine lv_if_eq (tgt := 10) hx hb dX12_cut_4 (by decide) (fun _ => ?_) (fun c9 => absurd (by decide) c9)
  refine lv_iload_n hx hb dX12_cut_10 rfl (lv_at hl 1 rfl) ?_
  refine lv_iconst (v := (-1)) hx hb dX12_cut_11 (by decide) ?_
  refine lv_icmp_lt (tgt := 33) hx hb dX12_cut_12 (by decide) (fun c_1 => ?_) (fun c_1 => ?_)
  · skip
    refine lv_iconst (v := (-1)) hx hb dX12_cut_33 (by decide) ?_
    refine W.widen (k := 0) (n := 0) (Nat.le_of_ble_eq_true rfl) (Nat.le_of_ble_eq_true rfl) ?_
    exact W.iret (v := (-1)) hx hb hr (fun t ht hW => ⟨⟨_, (), rfl, (by simp [zCut, *]), trivial⟩, hS.F ht⟩) hS.2.2 dX12_cut_34
  · skip
    refine lv_iload_n hx hb dX12_cut_15 rfl (lv_at hl 1 rfl) ?_
    refine lv_sipush (v := 2000) hx hb dX12_cut_16 (by decide) ?_
    refine lv_icmp_gt (tgt := 33) hx hb dX12_cut_19 (by decide) (fun c_2 => ?_) (fun c_2 => ?_)
    · skip
      refine lv_iconst (v := (-1)) hx hb dX12_cut_33 (by decide) ?_
      refine W.widen (k := 0) (n := 0) (Nat.le_of_ble_eq_true rfl) (Nat.le_of_ble_eq_true rfl) ?_
      exact W.iret (v := (-1)) hx hb hr (fun t ht hW => ⟨⟨_, (), rfl, (by simp [zCut, *]), trivial⟩, hS.F ht⟩) hS.2.2 dX12_cut_34
    · skip
      refine lv_iload_n hx hb dX12_cut_22 rfl (lv_at hl 2 rfl) ?_
      refine lv_if_lt (tgt := 33) hx hb dX12_cut_23 (by decide) (fun c_3 => ?_) (fun c_3 => ?_)
      · skip
        refine lv_iconst (v := (-1)) hx hb dX12_cut_33 (by decide) ?_
        refine W.widen (k := 0) (n := 0) (Nat.le_of_ble_eq_true rfl) (Nat.le_of_ble_eq_true rfl) ?_
        exact W.iret (v := (-1)) hx hb hr (fun t ht hW => ⟨⟨_, (), rfl, (by simp [zCut, *]), trivial⟩, hS.F ht⟩) hS.2.2 dX12_cut_34
      · skip
        refine lv_iload_n hx hb dX12_cut_26 rfl (lv_at hl 2 rfl) ?_
        refine lv_sipush (v := 255) hx hb dX12_cut_27 (by decide) ?_
        refine lv_icmp_le (tgt := 35) hx hb dX12_cut_30 (by decide) (fun c_4 => ?_) (fun c_4 => ?_)
        · skip
          refine lv_aload_n hx hb dX12_cut_35 rfl (lv_at hl 0 rfl) ?_
          refine lv_iload_n hx hb dX12_cut_36 rfl (lv_at hl 1 rfl) ?_
          refine y_put (T := TX12) (N := 212) (ci := 12) hx hb hts (zi_12 _) hown hK hP hD hS 0 rfl rfl 197 (by decide) tX12_197 uX12_197 (hts _ (zm_618 _)) rfl rfl rfl dX12_cut_37 (fun H locs f_5 ek_6 ok_7 hP hD hS => ?_)
          have hP : va_P D vwCl [(h0, .inr (12, zf 212 f_5))] H := hP
          have hD : va_D A [(h0, .inr (12, zf 212 f_5))] := hD
          refine lv_aload_n hx hb dX12_cut_40 rfl (lv_at hl 0 rfl) ?_
          refine lv_iload_n hx hb dX12_cut_41 rfl (lv_at hl 2 rfl) ?_
          refine y_put (T := TX12) (N := 212) (ci := 12) hx hb hts (zi_12 _) hown hK hP hD hS 0 rfl rfl 198 (by decide) tX12_198 uX12_198 (hts _ (zm_766 _)) rfl rfl rfl dX12_cut_42 (fun H locs f_8 ek_9 ok_10 hP hD hS => ?_)
          have hP : va_P D vwCl [(h0, .inr (12, zf 212 f_8))] H := hP
          have hD : va_D A [(h0, .inr (12, zf 212 f_8))] := hD
          refine lv_iconst (v := 1) hx hb dX12_cut_45 (by decide) ?_
          refine W.widen (k := 0) (n := 0) (Nat.le_of_ble_eq_true rfl) (Nat.le_of_ble_eq_true rfl) ?_
          exact W.iret (v := 1) hx hb hr (fun t ht hW => ⟨⟨_, (), rfl, (by rw [zCut_255 c_1 c_2 c_3]; simp [*]), trivial⟩, hS.F ht⟩) hS.2.2 dX12_cut_46
        · skip
          refine lv_iconst (v := (-1)) hx hb dX12_cut_33 (by decide) ?_
          refine W.widen (k := 0) (n := 0) (Nat.le_of_ble_eq_true rfl) (Nat.le_of_ble_eq_true rfl) ?_
          exact W.iret (v := (-1)) hx hb hr (fun t ht hW => ⟨⟨_, (), rfl, (by rw [zCut_255 c_1 c_2 c_3]; simp [*]), trivial⟩, hS.F ht⟩) hS.2.2 dX12_cut_34

set_option maxHeartbeats 8000000 in
set_option maxRecDepth 100000 in
/--  -/
theorem r_start (l : Launch) (D : va_G) (x : Nat → ClassId) (h0 : Nat) (f0 : Nat → Value) (sz : Nat) (h0_196 : f0 196 = .int 0) : Met l yX12_start (.code yX12_start cX12_start 7 (some .int) :: zW) ({ frames := 0, cells := (0), slots := (0), locals := 0 }) (va_Pc [.ref h0] (fun U => U.heap.size = sz ∧ va_P D vwCl [(h0, .inr (12, zf 212 f0))] U.heap ∧ zK x D U ∧ va_D (fun _ => True) [(h0, .inr (12, zf 212 f0))])) (va_Qi (fun (r : Int32) (u : Unit) => r = (-3)) (fun u t => True) (va_A [(h0, .inr (12, zf 212 f0))] sz)) (0) (0) (va_A [(h0, .inr (12, zf 212 f0))] sz) := by
  refine Met.ofW (cc := cX12_start) (maxL := 7) (ret := (some .int)) (by decide) rfl ?_
  intro p e s m args below meth c s₁ B hml hv
  obtain ⟨rfl, hsz, hP, hZ, hD0⟩ := hv
  have hK := hZ.1
  have hx := B.exec
  have hb := B.bytes
  have hr := B.returns
  have hts := atoms_spec (ws := .code yX12_start cX12_start 7 (some .int) :: zW) B.pre
  have hown : s.vm.findClass RX12 = some m.cls := findClass_of_methodNamed B.named
  have hlocks := B.notSynchronized
  subst hsz
  have hD := hD0.self (sz := s.heap.size)
  generalize hAe : va_A [(h0, .inr (12, zf 212 f0))] s.heap.size = A at hD ⊢
  have hA : ∀ q : Nat, s.heap.size ≤ q → A q := fun q h => by rw [← hAe]; exact Or.inr h
  have hS : va_S A s.heap s.heap [] := va_S.rf
  have hP : va_P D vwCl [(h0, .inr (12, zf 212 f0))] s.heap := hP
  have hl := lv_entry ([.ref h0]) (n := 7) (Nat.le_of_ble_eq_true rfl)
  rw [lg_entry_eq]
  generalize (lg_sl ([.ref h0]) ++ List.replicate (7 - (lg_sl ([.ref h0])).length) Slot.unset).toArray = ls at hl ⊢
  have hl : lv_has ls 7 [(0, .ref h0)] := hl
  refine lv_aload_n hx hb dX12_start_0 rfl (lv_at hl 0 rfl) ?_
  refine y_get (T := TX12) (N := 212) (ci := 12) hx hb hts (zi_12 _) hown hK hP 0 rfl rfl 196 (by decide) tX12_196 (hts _ (zm_637 _)) rfl h0_196 dX12_start_1 ?_
  refine lv_if_ne (tgt := 10) hx hb dX12_start_4 (by decide) (fun c9 => absurd (by decide) c9) (fun _ => ?_)
  refine lv_bipush (v := (-3)) hx hb dX12_start_7 (by decide) ?_
  refine W.widen (k := 0) (n := 0) (Nat.le_of_ble_eq_true rfl) (Nat.le_of_ble_eq_true rfl) ?_
  exact W.iret (v := (-3)) hx hb hr (fun t ht hW => ⟨⟨_, (), rfl, rfl, trivial⟩, hS.F ht⟩) hS.2.2 dX12_start_9

set_option maxHeartbeats 8000000 in
set_option maxRecDepth 100000 in
/--  -/
theorem r_verify (l : Launch) (D : va_G) (x : Nat → ClassId) (h0 : Nat) (f0 : Nat → Value) (sz : Nat) (h0_83 : f0 83 = .int 0) (h0_196 : f0 196 = .int 0) : Met l yX12_verify (.code yX12_verify cX12_verify 2 (some .int) :: zW) ({ frames := 0, cells := (0), slots := (0), locals := 0 }) (va_Pc [.ref h0] (fun U => U.heap.size = sz ∧ va_P D vwCl [(h0, .inr (12, zf 212 f0))] U.heap ∧ zK x D U ∧ va_D (fun _ => True) [(h0, .inr (12, zf 212 f0))])) (va_Qi (fun (r : Int32) (u : Unit) => r = (-1)) (fun u t => True) (va_A [(h0, .inr (12, zf 212 f0))] sz)) (0) (0) (va_A [(h0, .inr (12, zf 212 f0))] sz) := by
  refine Met.ofW (cc := cX12_verify) (maxL := 2) (ret := (some .int)) (by decide) rfl ?_
  intro p e s m args below meth c s₁ B hml hv
  obtain ⟨rfl, hsz, hP, hZ, hD0⟩ := hv
  have hK := hZ.1
  have hx := B.exec
  have hb := B.bytes
  have hr := B.returns
  have hts := atoms_spec (ws := .code yX12_verify cX12_verify 2 (some .int) :: zW) B.pre
  have hown : s.vm.findClass RX12 = some m.cls := findClass_of_methodNamed B.named
  have hlocks := B.notSynchronized
  subst hsz
  have hD := hD0.self (sz := s.heap.size)
  generalize hAe : va_A [(h0, .inr (12, zf 212 f0))] s.heap.size = A at hD ⊢
  have hA : ∀ q : Nat, s.heap.size ≤ q → A q := fun q h => by rw [← hAe]; exact Or.inr h
  have hS : va_S A s.heap s.heap [] := va_S.rf
  have hP : va_P D vwCl [(h0, .inr (12, zf 212 f0))] s.heap := hP
  have hl := lv_entry ([.ref h0]) (n := 2) (Nat.le_of_ble_eq_true rfl)
  rw [lg_entry_eq]
  generalize (lg_sl ([.ref h0]) ++ List.replicate (2 - (lg_sl ([.ref h0])).length) Slot.unset).toArray = ls at hl ⊢
  have hl : lv_has ls 2 [(0, .ref h0)] := hl
  refine lv_aload_n hx hb dX12_verify_0 rfl (lv_at hl 0 rfl) ?_
  refine y_get (T := TX12) (N := 212) (ci := 12) hx hb hts (zi_12 _) hown hK hP 0 rfl rfl 196 (by decide) tX12_196 (hts _ (zm_637 _)) rfl h0_196 dX12_verify_1 ?_
  refine lv_if_eq (tgt := 10) hx hb dX12_verify_4 (by decide) (fun _ => ?_) (fun c9 => absurd (by decide) c9)
  refine lv_iconst (v := 1) hx hb dX12_verify_10 (by decide) ?_
  refine lv_istore_n (lv' := [(1, .int 1), (0, .ref h0)]) hx hb dX12_verify_11 rfl hl (by decide) rfl (fun ls hl => ?_)
  refine lv_iload_n hx hb dX12_verify_12 rfl (lv_at hl 0 rfl) ?_
  refine lv_aload_n hx hb dX12_verify_13 rfl (lv_at hl 1 rfl) ?_
  refine y_get (T := TX12) (N := 212) (ci := 12) hx hb hts (zi_12 _) hown hK hP 0 rfl rfl 83 (by decide) tX12_83 (hts _ (zm_756 _)) rfl h0_83 dX12_verify_14 ?_
  refine lv_icmp_gt (tgt := 36) hx hb dX12_verify_17 (by decide) (fun _ => ?_) (fun c9 => absurd (by decide) c9)
  refine lv_iconst (v := (-1)) hx hb dX12_verify_36 (by decide) ?_
  refine W.widen (k := 0) (n := 0) (Nat.le_of_ble_eq_true rfl) (Nat.le_of_ble_eq_true rfl) ?_
  exact W.iret (v := (-1)) hx hb hr (fun t ht hW => ⟨⟨_, (), rfl, rfl, trivial⟩, hS.F ht⟩) hS.2.2 dX12_verify_37

set_option maxHeartbeats 8000000 in
set_option maxRecDepth 100000 in
/--  -/
theorem r_save (l : Launch) (D : va_G) (x : Nat → ClassId) (n0 : Int32) (h0 : Nat) (f0 : Nat → Value) (sz : Nat) (h0_195 : f0 195 = .int 0) (h0_196 : f0 196 = .int 0) : Met l yX12_save (.code yX12_save cX12_save 9 (some .int) :: zW) ({ frames := 0, cells := (0), slots := (0), locals := 0 }) (va_Pc [.ref h0, .int n0] (fun U => U.heap.size = sz ∧ va_P D vwCl [(h0, .inr (12, zf 212 f0))] U.heap ∧ zK x D U ∧ va_D (fun _ => True) [(h0, .inr (12, zf 212 f0))])) (va_Qi (fun (r : Int32) (u : Unit) => r = (-1)) (fun u t => True) (va_A [(h0, .inr (12, zf 212 f0))] sz)) (0) (0) (va_A [(h0, .inr (12, zf 212 f0))] sz) := by
  refine Met.ofW (cc := cX12_save) (maxL := 9) (ret := (some .int)) (by decide) rfl ?_
  intro p e s m args below meth c s₁ B hml hv
  obtain ⟨rfl, hsz, hP, hZ, hD0⟩ := hv
  have hK := hZ.1
  have hx := B.exec
  have hb := B.bytes
  have hr := B.returns
  have hts := atoms_spec (ws := .code yX12_save cX12_save 9 (some .int) :: zW) B.pre
  have hown : s.vm.findClass RX12 = some m.cls := findClass_of_methodNamed B.named
  have hlocks := B.notSynchronized
  subst hsz
  have hD := hD0.self (sz := s.heap.size)
  generalize hAe : va_A [(h0, .inr (12, zf 212 f0))] s.heap.size = A at hD ⊢
  have hA : ∀ q : Nat, s.heap.size ≤ q → A q := fun q h => by rw [← hAe]; exact Or.inr h
  have hS : va_S A s.heap s.heap [] := va_S.rf
  have hP : va_P D vwCl [(h0, .inr (12, zf 212 f0))] s.heap := hP
  have hl := lv_entry ([.ref h0, .int n0]) (n := 9) (Nat.le_of_ble_eq_true rfl)
  rw [lg_entry_eq]
  generalize (lg_sl ([.ref h0, .int n0]) ++ List.replicate (9 - (lg_sl ([.ref h0, .int n0])).length) Slot.unset).toArray = ls at hl ⊢
  have hl : lv_has ls 9 [(0, .ref h0), (1, .int n0)] := hl
  refine lv_aload_n hx hb dX12_save_0 rfl (lv_at hl 0 rfl) ?_
  refine y_get (T := TX12) (N := 212) (ci := 12) hx hb hts (zi_12 _) hown hK hP 0 rfl rfl 196 (by decide) tX12_196 (hts _ (zm_637 _)) rfl h0_196 dX12_save_1 ?_
  refine lv_if_eq (tgt := 10) hx hb dX12_save_4 (by decide) (fun _ => ?_) (fun c9 => absurd (by decide) c9)
  refine lv_aload_n hx hb dX12_save_10 rfl (lv_at hl 0 rfl) ?_
  refine y_get (T := TX12) (N := 212) (ci := 12) hx hb hts (zi_12 _) hown hK hP 0 rfl rfl 195 (by decide) tX12_195 (hts _ (zm_630 _)) rfl h0_195 dX12_save_11 ?_
  refine lv_istore_n (lv' := [(2, .int 0), (0, .ref h0), (1, .int n0)]) hx hb dX12_save_14 rfl hl (by decide) rfl (fun ls hl => ?_)
  refine lv_aload_n hx hb dX12_save_15 rfl (lv_at hl 1 rfl) ?_
  refine lv_iconst (v := 0) hx hb dX12_save_16 (by decide) ?_
  refine y_put (T := TX12) (N := 212) (ci := 12) hx hb hts (zi_12 _) hown hK hP hD hS 0 rfl rfl 195 (by decide) tX12_195 uX12_195 (hts _ (zm_630 _)) rfl rfl rfl dX12_save_17 (fun H locs f_1 ek_2 ok_3 hP hD hS => ?_)
  have hP : va_P D vwCl [(h0, .inr (12, zf 212 f_1))] H := hP
  have hD : va_D A [(h0, .inr (12, zf 212 f_1))] := hD
  refine lv_iload_n hx hb dX12_save_20 rfl (lv_at hl 2 rfl) ?_
  refine lv_iconst (v := 1) hx hb dX12_save_21 (by decide) ?_
  refine lv_icmp_lt (tgt := 36) hx hb dX12_save_22 (by decide) (fun c_4 => ?_) (fun c_4 => ?_)
  · skip
    refine lv_iconst (v := (-1)) hx hb dX12_save_36 (by decide) ?_
    refine W.widen (k := 0) (n := 0) (Nat.le_of_ble_eq_true rfl) (Nat.le_of_ble_eq_true rfl) ?_
    exact W.iret (v := (-1)) hx hb hr (fun t ht hW => ⟨⟨_, (), rfl, rfl, trivial⟩, hS.F ht⟩) hS.2.2 dX12_save_37
  · skip
    refine lv_iload_n hx hb dX12_save_25 rfl (lv_at hl 2 rfl) ?_
    refine lv_bipush (v := 8) hx hb dX12_save_26 (by decide) ?_
    refine lv_icmp_gt (tgt := 36) hx hb dX12_save_28 (by decide) (fun c_5 => ?_) (fun c_5 => ?_)
    · skip
      refine lv_iconst (v := (-1)) hx hb dX12_save_36 (by decide) ?_
      refine W.widen (k := 0) (n := 0) (Nat.le_of_ble_eq_true rfl) (Nat.le_of_ble_eq_true rfl) ?_
      exact W.iret (v := (-1)) hx hb hr (fun t ht hW => ⟨⟨_, (), rfl, rfl, trivial⟩, hS.F ht⟩) hS.2.2 dX12_save_37
    · skip
      refine lv_iload_n hx hb dX12_save_31 rfl (lv_at hl 2 rfl) ?_
      refine lv_iload_n hx hb dX12_save_32 rfl (lv_at hl 0 rfl) ?_
      refine lv_icmp_le (tgt := 38) hx hb dX12_save_33 (by decide) (fun c9 => absurd c9 ((z_save c_4))) (fun _ => ?_)
      refine lv_iconst (v := (-1)) hx hb dX12_save_36 (by decide) ?_
      refine W.widen (k := 0) (n := 0) (Nat.le_of_ble_eq_true rfl) (Nat.le_of_ble_eq_true rfl) ?_
      exact W.iret (v := (-1)) hx hb hr (fun t ht hW => ⟨⟨_, (), rfl, rfl, trivial⟩, hS.F ht⟩) hS.2.2 dX12_save_37

set_option maxHeartbeats 8000000 in
set_option maxRecDepth 100000 in
/--  -/
theorem r_countRows (l : Launch) (D : va_G) (x : Nat → ClassId) (n0 : Int32) (h0 : Nat) (f0 : Nat → Value) (sz : Nat) (h0_8 : f0 8 = .int 0) : Met l yX12_countRows (.code yX12_countRows cX12_countRows 4 (some .int) :: zW) ({ frames := 0, cells := (0), slots := (0), locals := 0 }) (va_Pc [.ref h0, .int n0] (fun U => U.heap.size = sz ∧ va_P D vwCl [(h0, .inr (12, zf 212 f0))] U.heap ∧ zK x D U ∧ va_D (fun _ => True) [(h0, .inr (12, zf 212 f0))])) (va_Qi (fun (r : Int32) (u : Unit) => r = 0) (fun u t => zB D vwCl (va_A [(h0, .inr (12, zf 212 f0))] sz) [(h0, .inr (12, zf 212 f0))] t) (va_A [(h0, .inr (12, zf 212 f0))] sz)) (0) (0) (va_A [(h0, .inr (12, zf 212 f0))] sz) := by
  refine Met.ofW (cc := cX12_countRows) (maxL := 4) (ret := (some .int)) (by decide) rfl ?_
  intro p e s m args below meth c s₁ B hml hv
  obtain ⟨rfl, hsz, hP, hZ, hD0⟩ := hv
  have hK := hZ.1
  have hx := B.exec
  have hb := B.bytes
  have hr := B.returns
  have hts := atoms_spec (ws := .code yX12_countRows cX12_countRows 4 (some .int) :: zW) B.pre
  have hown : s.vm.findClass RX12 = some m.cls := findClass_of_methodNamed B.named
  have hlocks := B.notSynchronized
  subst hsz
  have hD := hD0.self (sz := s.heap.size)
  generalize hAe : va_A [(h0, .inr (12, zf 212 f0))] s.heap.size = A at hD ⊢
  have hA : ∀ q : Nat, s.heap.size ≤ q → A q := fun q h => by rw [← hAe]; exact Or.inr h
  have hS : va_S A s.heap s.heap [] := va_S.rf
  have hP : va_P D vwCl [(h0, .inr (12, zf 212 f0))] s.heap := hP
  have hl := lv_entry ([.ref h0, .int n0]) (n := 4) (Nat.le_of_ble_eq_true rfl)
  rw [lg_entry_eq]
  generalize (lg_sl ([.ref h0, .int n0]) ++ List.replicate (4 - (lg_sl ([.ref h0, .int n0])).length) Slot.unset).toArray = ls at hl ⊢
  have hl : lv_has ls 4 [(0, .ref h0), (1, .int n0)] := hl
  refine lv_iconst (v := 0) hx hb dX12_countRows_0 (by decide) ?_
  refine lv_istore_n (lv' := [(2, .int 0), (0, .ref h0), (1, .int n0)]) hx hb dX12_countRows_1 rfl hl (by decide) rfl (fun ls hl => ?_)
  refine lv_iconst (v := 0) hx hb dX12_countRows_2 (by decide) ?_
  refine lv_istore_n (lv' := [(3, .int 0), (2, .int 0), (0, .ref h0), (1, .int n0)]) hx hb dX12_countRows_3 rfl hl (by decide) rfl (fun ls hl => ?_)
  refine lv_iload_n hx hb dX12_countRows_4 rfl (lv_at hl 0 rfl) ?_
  refine lv_aload_n hx hb dX12_countRows_5 rfl (lv_at hl 2 rfl) ?_
  refine y_get (T := TX12) (N := 212) (ci := 12) hx hb hts (zi_12 _) hown hK hP 0 rfl rfl 8 (by decide) tX12_8 (hts _ (zm_773 _)) rfl h0_8 dX12_countRows_6 ?_
  refine lv_icmp_ge (tgt := 45) hx hb dX12_countRows_9 (by decide) (fun _ => ?_) (fun c9 => absurd (by decide) c9)
  refine lv_iload_n hx hb dX12_countRows_45 rfl (lv_at hl 1 rfl) ?_
  refine W.widen (k := 0) (n := 0) (Nat.le_of_ble_eq_true rfl) (Nat.le_of_ble_eq_true rfl) ?_
  have hP9 := hP.sub (ws' := [(h0, .inr (12, zf 212 f0))]) [0] rfl
  have hD9 := hD.sub (ws' := [(h0, .inr (12, zf 212 f0))]) [0] (by decide) rfl
  exact W.iret (v := 0) hx hb hr (fun t ht hW => ⟨⟨_, (), rfl, rfl, ⟨by rw [ht]; exact hP9, hD9⟩⟩, hS.F ht⟩) hS.2.2 dX12_countRows_46

set_option maxHeartbeats 8000000 in
set_option maxRecDepth 100000 in
/--  -/
theorem r_count (l : Launch) (D : va_G) (x : Nat → ClassId) (n0 : Int32) (h0 : Nat) (f0 : Nat → Value) (na : Nat) (gn : Nat → Int32) (sz : Nat) (h0_196 : f0 196 = .int 0) (h0_28 : f0 28 = .int 0) (h0_8 : f0 8 = .int 0) (h0_104 : f0 104 = .int 0) (h0_161 : f0 161 = .int 0) (h0_170 : f0 170 = .int 0) (h0_171 : f0 171 = .int 0) (h0_172 : f0 172 = .int 0) (h0_173 : f0 173 = .int 0) (h0_174 : f0 174 = .int 0) (h0_83 : f0 83 = .int 0) (h0_86 : f0 86 = .int 0) (h0_85 : f0 85 = .int 0) (h0_169 : f0 169 = .int 0) (h0_106 : f0 106 = .ref na) (h1_0 : gn 0 = -1) (h1_1 : gn 1 = -1) (h1_2 : gn 2 = -1) (h1_3 : gn 3 = -1) (h1_4 : gn 4 = -1) (h1_5 : gn 5 = -1) : Met l yX12_count (.code yX12_count cX12_count 2 (some .int) :: zW) ({ frames := 1, cells := (0), slots := (0), locals := 23 }) (va_Pc [.ref h0, .int n0] (fun U => U.heap.size = sz ∧ va_P D vwCl [(h0, .inr (12, zf 212 f0)), (na, .inl (x 0, 8, .inl gn))] U.heap ∧ zK x D U ∧ va_D (fun _ => True) [(h0, .inr (12, zf 212 f0)), (na, .inl (x 0, 8, .inl gn))])) (va_Qi (fun (r : Int32) (u : Unit) => r = (zCount n0)) (fun u t => True) (va_A [(h0, .inr (12, zf 212 f0)), (na, .inl (x 0, 8, .inl gn))] sz)) (0) (0) (va_A [(h0, .inr (12, zf 212 f0)), (na, .inl (x 0, 8, .inl gn))] sz) := by
  refine Met.ofW (cc := cX12_count) (maxL := 2) (ret := (some .int)) (by decide) rfl ?_
  intro p e s m args below meth c s₁ B hml hv
  obtain ⟨rfl, hsz, hP, hZ, hD0⟩ := hv
  have hK := hZ.1
  have hx := B.exec
  have hb := B.bytes
  have hr := B.returns
  have hts := atoms_spec (ws := .code yX12_count cX12_count 2 (some .int) :: zW) B.pre
  have hown : s.vm.findClass RX12 = some m.cls := findClass_of_methodNamed B.named
  have hlocks := B.notSynchronized
  subst hsz
  have hD := hD0.self (sz := s.heap.size)
  generalize hAe : va_A [(h0, .inr (12, zf 212 f0)), (na, .inl (x 0, 8, .inl gn))] s.heap.size = A at hD ⊢
  have hA : ∀ q : Nat, s.heap.size ≤ q → A q := fun q h => by rw [← hAe]; exact Or.inr h
  have hS : va_S A s.heap s.heap [] := va_S.rf
  have hP : va_P D vwCl [(h0, .inr (12, zf 212 f0)), (na, .inl (x 0, 8, .inl gn))] s.heap := hP
  have hl := lv_entry ([.ref h0, .int n0]) (n := 2) (Nat.le_of_ble_eq_true rfl)
  rw [lg_entry_eq]
  generalize (lg_sl ([.ref h0, .int n0]) ++ List.replicate (2 - (lg_sl ([.ref h0, .int n0])).length) Slot.unset).toArray = ls at hl ⊢
  have hl : lv_has ls 2 [(0, .ref h0), (1, .int n0)] := hl
  refine lv_aload_n hx hb dX12_count_0 rfl (lv_at hl 0 rfl) ?_
  refine y_get (T := TX12) (N := 212) (ci := 12) hx hb hts (zi_12 _) hown hK hP 0 rfl rfl 196 (by decide) tX12_196 (hts _ (zm_637 _)) rfl h0_196 dX12_count_1 ?_
  refine lv_if_eq (tgt := 10) hx hb dX12_count_4 (by decide) (fun _ => ?_) (fun c9 => absurd (by decide) c9)
  refine lv_iload_n hx hb dX12_count_10 rfl (lv_at hl 1 rfl) ?_
  by_cases c_1 : n0.toInt < 0 ∨ 14 < n0.toInt
  · skip
    refine lv_tableOut (tgt := 161) hx hb dX12_count_11 c_1 (by decide) ?_
    refine lv_iconst (v := (-1)) hx hb dX12_count_161 (by decide) ?_
    refine W.widen (k := 0) (n := 0) (Nat.le_of_ble_eq_true rfl) (Nat.le_of_ble_eq_true rfl) ?_
    exact W.iret (v := (-1)) hx hb hr (fun t ht hW => ⟨⟨_, (), rfl, by simp [zCount, *], trivial⟩, hS.F ht⟩) hS.2.2 dX12_count_162
  · skip
    have hv : n0.toInt = 0 ∨ n0.toInt = 1 ∨ n0.toInt = 2 ∨ n0.toInt = 3 ∨ n0.toInt = 4 ∨ n0.toInt = 5 ∨ n0.toInt = 6 ∨ n0.toInt = 7 ∨ n0.toInt = 8 ∨ n0.toInt = 9 ∨ n0.toInt = 10 ∨ n0.toInt = 11 ∨ n0.toInt = 12 ∨ n0.toInt = 13 ∨ n0.toInt = 14 := by omega
    rcases hv with hv | hv | hv | hv | hv | hv | hv | hv | hv | hv | hv | hv | hv | hv | hv
    · skip
      refine lv_tableIn (off := 73) (tgt := 84) hx hb dX12_count_11 (by omega) (by omega) (by rw [hv]; rfl) (by decide) ?_
      refine lv_aload_n hx hb dX12_count_84 rfl (lv_at hl 0 rfl) ?_
      refine y_get (T := TX12) (N := 212) (ci := 12) hx hb hts (zi_12 _) hown hK hP 0 rfl rfl 28 (by decide) tX12_28 (hts _ (zm_647 _)) rfl h0_28 dX12_count_85 ?_
      refine W.widen (k := 0) (n := 0) (Nat.le_of_ble_eq_true rfl) (Nat.le_of_ble_eq_true rfl) ?_
      exact W.iret (v := 0) hx hb hr (fun t ht hW => ⟨⟨_, (), rfl, by simp [zCount, *], trivial⟩, hS.F ht⟩) hS.2.2 dX12_count_88
    · skip
      refine lv_tableIn (off := 78) (tgt := 89) hx hb dX12_count_11 (by omega) (by omega) (by rw [hv]; rfl) (by decide) ?_
      refine lv_aload_n hx hb dX12_count_89 rfl (lv_at hl 0 rfl) ?_
      refine lv_iconst (v := 1) hx hb dX12_count_90 (by decide) ?_
      have hPc := hP.sub (ws' := [(h0, .inr (12, zf 212 f0))]) [0] rfl
      have hDc := hD.sub (ws' := [(h0, .inr (12, zf 212 f0))]) [0] (by decide) rfl
      have hFc := va_free (wc := [(h0, .inr (12, zf 212 f0))]) hD hS hA [0] rfl
      have h_3 : 0 + 0 ≤ 0 ∧ 0 + 0 ≤ 0 := by omega
      refine va_calli (va_runV (As := [.int 1]) (rest := []) ⟨hx, hb, hml, hown, hts⟩ (r_countRows l D x 1 h0 f0 s.heap.size h0_8) ⟨callB_of 1 hts (zgood (zm_826 _) rfl) rfl rfl rfl (hts _ (zm_459 _)) (hts _ (zm_752 _)) ⟨by decide, by decide, by decide +kernel⟩ ⟨Nat.le_of_ble_eq_true rfl, Nat.le_of_ble_eq_true rfl⟩, hts _ (zm_827 _), hts _ (zm_828 _)⟩ ⟨fun a U g mk q => by obtain ⟨q0, q1, qP, qK, qD⟩ := q; exact ⟨q0, q1, qP, ZK.calling (u := U) zN_ok rfl qK, qD⟩, va_recv hK hPc (ci := 12) (q0 := 0) rfl rfl, fun U hU hW => ⟨rfl, by rw [hU], by rw [hU]; exact hPc, ZK.warm zN_ok hW hZ, hDc.weaken (fun _ _ _ _ => trivial)⟩⟩ rfl rfl hl.1 rfl (lv_room (Nat.le_of_ble_eq_true rfl)) dX12_count_91 h_3) hS (fun q _ h => hFc q h) hFc (fun r_2 u t H1 locs ht hvm hw_2 hB hz1 hk1 hS => ?_)
      obtain ⟨hP1, hD1⟩ := hB
      rw [ht] at hP1
      try dsimp only at hw_2
      obtain ⟨hP, hD⟩ := va_join (wr := [(na, .inl (x 0, 8, .inl gn))]) (w1 := [(h0, .inr (12, zf 212 f0))]) hP hD [0] [1] rfl rfl (by decide) (by decide) hk1 hFc hP1 hD1
      generalize H1 = H at hP hS ⊢
      have hP : va_P D vwCl [(na, .inl (x 0, 8, .inl gn)), (h0, .inr (12, zf 212 f0))] H := hP
      have hD : va_D A [(na, .inl (x 0, 8, .inl gn)), (h0, .inr (12, zf 212 f0))] := hD
      refine W.widen (k := 0) (n := 0) (by omega) (by omega) ?_
      obtain rfl : r_2 = 0 := hw_2
      refine W.widen (k := 0) (n := 0) (Nat.le_of_ble_eq_true rfl) (Nat.le_of_ble_eq_true rfl) ?_
      exact W.iret (v := 0) hx hb hr (fun t ht hW => ⟨⟨_, (), rfl, by simp [zCount, *], trivial⟩, hS.F ht⟩) hS.2.2 dX12_count_94
    · skip
      refine lv_tableIn (off := 84) (tgt := 95) hx hb dX12_count_11 (by omega) (by omega) (by rw [hv]; rfl) (by decide) ?_
      refine lv_aload_n hx hb dX12_count_95 rfl (lv_at hl 0 rfl) ?_
      refine lv_iconst (v := 0) hx hb dX12_count_96 (by decide) ?_
      have hPc := hP.sub (ws' := [(h0, .inr (12, zf 212 f0))]) [0] rfl
      have hDc := hD.sub (ws' := [(h0, .inr (12, zf 212 f0))]) [0] (by decide) rfl
      have hFc := va_free (wc := [(h0, .inr (12, zf 212 f0))]) hD hS hA [0] rfl
      have h_5 : 0 + 0 ≤ 0 ∧ 0 + 0 ≤ 0 := by omega
      refine va_calli (va_runV (As := [.int 0]) (rest := []) ⟨hx, hb, hml, hown, hts⟩ (r_countRows l D x 0 h0 f0 s.heap.size h0_8) ⟨callB_of 1 hts (zgood (zm_826 _) rfl) rfl rfl rfl (hts _ (zm_459 _)) (hts _ (zm_752 _)) ⟨by decide, by decide, by decide +kernel⟩ ⟨Nat.le_of_ble_eq_true rfl, Nat.le_of_ble_eq_true rfl⟩, hts _ (zm_827 _), hts _ (zm_828 _)⟩ ⟨fun a U g mk q => by obtain ⟨q0, q1, qP, qK, qD⟩ := q; exact ⟨q0, q1, qP, ZK.calling (u := U) zN_ok rfl qK, qD⟩, va_recv hK hPc (ci := 12) (q0 := 0) rfl rfl, fun U hU hW => ⟨rfl, by rw [hU], by rw [hU]; exact hPc, ZK.warm zN_ok hW hZ, hDc.weaken (fun _ _ _ _ => trivial)⟩⟩ rfl rfl hl.1 rfl (lv_room (Nat.le_of_ble_eq_true rfl)) dX12_count_97 h_5) hS (fun q _ h => hFc q h) hFc (fun r_4 u t H1 locs ht hvm hw_4 hB hz1 hk1 hS => ?_)
      obtain ⟨hP1, hD1⟩ := hB
      rw [ht] at hP1
      try dsimp only at hw_4
      obtain ⟨hP, hD⟩ := va_join (wr := [(na, .inl (x 0, 8, .inl gn))]) (w1 := [(h0, .inr (12, zf 212 f0))]) hP hD [0] [1] rfl rfl (by decide) (by decide) hk1 hFc hP1 hD1
      generalize H1 = H at hP hS ⊢
      have hP : va_P D vwCl [(na, .inl (x 0, 8, .inl gn)), (h0, .inr (12, zf 212 f0))] H := hP
      have hD : va_D A [(na, .inl (x 0, 8, .inl gn)), (h0, .inr (12, zf 212 f0))] := hD
      refine W.widen (k := 0) (n := 0) (by omega) (by omega) ?_
      obtain rfl : r_4 = 0 := hw_4
      refine W.widen (k := 0) (n := 0) (Nat.le_of_ble_eq_true rfl) (Nat.le_of_ble_eq_true rfl) ?_
      exact W.iret (v := 0) hx hb hr (fun t ht hW => ⟨⟨_, (), rfl, by simp [zCount, *], trivial⟩, hS.F ht⟩) hS.2.2 dX12_count_100
    · skip
      refine lv_tableIn (off := 90) (tgt := 101) hx hb dX12_count_11 (by omega) (by omega) (by rw [hv]; rfl) (by decide) ?_
      refine lv_aload_n hx hb dX12_count_101 rfl (lv_at hl 0 rfl) ?_
      refine y_get (T := TX12) (N := 212) (ci := 12) hx hb hts (zi_12 _) hown hK hP 0 rfl rfl 104 (by decide) tX12_104 (hts _ (zm_660 _)) rfl h0_104 dX12_count_102 ?_
      refine W.widen (k := 0) (n := 0) (Nat.le_of_ble_eq_true rfl) (Nat.le_of_ble_eq_true rfl) ?_
      exact W.iret (v := 0) hx hb hr (fun t ht hW => ⟨⟨_, (), rfl, by simp [zCount, *], trivial⟩, hS.F ht⟩) hS.2.2 dX12_count_105
    · skip
      refine lv_tableIn (off := 95) (tgt := 106) hx hb dX12_count_11 (by omega) (by omega) (by rw [hv]; rfl) (by decide) ?_
      refine lv_aload_n hx hb dX12_count_106 rfl (lv_at hl 0 rfl) ?_
      have hPc := hP.sub (ws' := [(h0, .inr (12, zf 212 f0)), (na, .inl (x 0, 8, .inl gn))]) [0, 1] rfl
      have hDc := hD.sub (ws' := [(h0, .inr (12, zf 212 f0)), (na, .inl (x 0, 8, .inl gn))]) [0, 1] (by decide) rfl
      have hFc := va_free (wc := [(h0, .inr (12, zf 212 f0)), (na, .inl (x 0, 8, .inl gn))]) hD hS hA [0, 1] rfl
      have h_7 : 0 + 0 ≤ 0 ∧ 0 + 0 ≤ 0 := by omega
      refine va_calli (va_runV (As := []) (rest := []) ⟨hx, hb, hml, hown, hts⟩ (r_living l D x h0 f0 na gn s.heap.size h0_106 h1_0 h1_1 h1_2 h1_3 h1_4 h1_5) ⟨callB_of 0 hts (zgood (zm_788 _) rfl) rfl rfl rfl (hts _ (zm_459 _)) (hts _ (zm_684 _)) ⟨by decide, by decide, by decide +kernel⟩ ⟨Nat.le_of_ble_eq_true rfl, Nat.le_of_ble_eq_true rfl⟩, hts _ (zm_789 _), hts _ (zm_790 _)⟩ ⟨fun a U g mk q => by obtain ⟨q0, q1, qP, qK, qD⟩ := q; exact ⟨q0, q1, qP, ZK.calling (u := U) zN_ok rfl qK, qD⟩, va_recv hK hPc (ci := 12) (q0 := 0) rfl rfl, fun U hU hW => ⟨rfl, by rw [hU], by rw [hU]; exact hPc, ZK.warm zN_ok hW hZ, hDc.weaken (fun _ _ _ _ => trivial)⟩⟩ rfl rfl hl.1 rfl (lv_room (Nat.le_of_ble_eq_true rfl)) dX12_count_107 h_7) hS (fun q _ h => hFc q h) hFc (fun r_6 u t H1 locs ht hvm hw_6 hB hz1 hk1 hS => ?_)
      obtain ⟨hP1, hD1⟩ := hB
      rw [ht] at hP1
      try dsimp only at hw_6
      obtain ⟨hP, hD⟩ := va_join (wr := []) (w1 := [(h0, .inr (12, zf 212 f0)), (na, .inl (x 0, 8, .inl gn))]) hP hD [0, 1] [] rfl rfl (by decide) (by decide) hk1 hFc hP1 hD1
      generalize H1 = H at hP hS ⊢
      have hP : va_P D vwCl [(h0, .inr (12, zf 212 f0)), (na, .inl (x 0, 8, .inl gn))] H := hP
      have hD : va_D A [(h0, .inr (12, zf 212 f0)), (na, .inl (x 0, 8, .inl gn))] := hD
      refine W.widen (k := 0) (n := 0) (by omega) (by omega) ?_
      obtain rfl : r_6 = 0 := hw_6
      refine W.widen (k := 0) (n := 0) (Nat.le_of_ble_eq_true rfl) (Nat.le_of_ble_eq_true rfl) ?_
      exact W.iret (v := 0) hx hb hr (fun t ht hW => ⟨⟨_, (), rfl, by simp [zCount, *], trivial⟩, hS.F ht⟩) hS.2.2 dX12_count_110
    · skip
      refine lv_tableIn (off := 100) (tgt := 111) hx hb dX12_count_11 (by omega) (by omega) (by rw [hv]; rfl) (by decide) ?_
      refine lv_aload_n hx hb dX12_count_111 rfl (lv_at hl 0 rfl) ?_
      refine y_get (T := TX12) (N := 212) (ci := 12) hx hb hts (zi_12 _) hown hK hP 0 rfl rfl 161 (by decide) tX12_161 (hts _ (zm_697 _)) rfl h0_161 dX12_count_112 ?_
      refine W.widen (k := 0) (n := 0) (Nat.le_of_ble_eq_true rfl) (Nat.le_of_ble_eq_true rfl) ?_
      exact W.iret (v := 0) hx hb hr (fun t ht hW => ⟨⟨_, (), rfl, by simp [zCount, *], trivial⟩, hS.F ht⟩) hS.2.2 dX12_count_115
    · skip
      refine lv_tableIn (off := 105) (tgt := 116) hx hb dX12_count_11 (by omega) (by omega) (by rw [hv]; rfl) (by decide) ?_
      refine lv_aload_n hx hb dX12_count_116 rfl (lv_at hl 0 rfl) ?_
      refine y_get (T := TX12) (N := 212) (ci := 12) hx hb hts (zi_12 _) hown hK hP 0 rfl rfl 170 (by decide) tX12_170 (hts _ (zm_687 _)) rfl h0_170 dX12_count_117 ?_
      refine W.widen (k := 0) (n := 0) (Nat.le_of_ble_eq_true rfl) (Nat.le_of_ble_eq_true rfl) ?_
      exact W.iret (v := 0) hx hb hr (fun t ht hW => ⟨⟨_, (), rfl, by simp [zCount, *], trivial⟩, hS.F ht⟩) hS.2.2 dX12_count_120
    · skip
      refine lv_tableIn (off := 110) (tgt := 121) hx hb dX12_count_11 (by omega) (by omega) (by rw [hv]; rfl) (by decide) ?_
      refine lv_aload_n hx hb dX12_count_121 rfl (lv_at hl 0 rfl) ?_
      refine y_get (T := TX12) (N := 212) (ci := 12) hx hb hts (zi_12 _) hown hK hP 0 rfl rfl 171 (by decide) tX12_171 (hts _ (zm_689 _)) rfl h0_171 dX12_count_122 ?_
      refine W.widen (k := 0) (n := 0) (Nat.le_of_ble_eq_true rfl) (Nat.le_of_ble_eq_true rfl) ?_
      exact W.iret (v := 0) hx hb hr (fun t ht hW => ⟨⟨_, (), rfl, by simp [zCount, *], trivial⟩, hS.F ht⟩) hS.2.2 dX12_count_125
    · skip
      refine lv_tableIn (off := 115) (tgt := 126) hx hb dX12_count_11 (by omega) (by omega) (by rw [hv]; rfl) (by decide) ?_
      refine lv_aload_n hx hb dX12_count_126 rfl (lv_at hl 0 rfl) ?_
      refine y_get (T := TX12) (N := 212) (ci := 12) hx hb hts (zi_12 _) hown hK hP 0 rfl rfl 172 (by decide) tX12_172 (hts _ (zm_753 _)) rfl h0_172 dX12_count_127 ?_
      refine W.widen (k := 0) (n := 0) (Nat.le_of_ble_eq_true rfl) (Nat.le_of_ble_eq_true rfl) ?_
      exact W.iret (v := 0) hx hb hr (fun t ht hW => ⟨⟨_, (), rfl, by simp [zCount, *], trivial⟩, hS.F ht⟩) hS.2.2 dX12_count_130
    · skip
      refine lv_tableIn (off := 120) (tgt := 131) hx hb dX12_count_11 (by omega) (by omega) (by rw [hv]; rfl) (by decide) ?_
      refine lv_aload_n hx hb dX12_count_131 rfl (lv_at hl 0 rfl) ?_
      refine y_get (T := TX12) (N := 212) (ci := 12) hx hb hts (zi_12 _) hown hK hP 0 rfl rfl 173 (by decide) tX12_173 (hts _ (zm_754 _)) rfl h0_173 dX12_count_132 ?_
      refine W.widen (k := 0) (n := 0) (Nat.le_of_ble_eq_true rfl) (Nat.le_of_ble_eq_true rfl) ?_
      exact W.iret (v := 0) hx hb hr (fun t ht hW => ⟨⟨_, (), rfl, by simp [zCount, *], trivial⟩, hS.F ht⟩) hS.2.2 dX12_count_135
    · skip
      refine lv_tableIn (off := 125) (tgt := 136) hx hb dX12_count_11 (by omega) (by omega) (by rw [hv]; rfl) (by decide) ?_
      refine lv_aload_n hx hb dX12_count_136 rfl (lv_at hl 0 rfl) ?_
      refine y_get (T := TX12) (N := 212) (ci := 12) hx hb hts (zi_12 _) hown hK hP 0 rfl rfl 174 (by decide) tX12_174 (hts _ (zm_755 _)) rfl h0_174 dX12_count_137 ?_
      refine W.widen (k := 0) (n := 0) (Nat.le_of_ble_eq_true rfl) (Nat.le_of_ble_eq_true rfl) ?_
      exact W.iret (v := 0) hx hb hr (fun t ht hW => ⟨⟨_, (), rfl, by simp [zCount, *], trivial⟩, hS.F ht⟩) hS.2.2 dX12_count_140
    · skip
      refine lv_tableIn (off := 130) (tgt := 141) hx hb dX12_count_11 (by omega) (by omega) (by rw [hv]; rfl) (by decide) ?_
      refine lv_aload_n hx hb dX12_count_141 rfl (lv_at hl 0 rfl) ?_
      refine y_get (T := TX12) (N := 212) (ci := 12) hx hb hts (zi_12 _) hown hK hP 0 rfl rfl 83 (by decide) tX12_83 (hts _ (zm_756 _)) rfl h0_83 dX12_count_142 ?_
      refine W.widen (k := 0) (n := 0) (Nat.le_of_ble_eq_true rfl) (Nat.le_of_ble_eq_true rfl) ?_
      exact W.iret (v := 0) hx hb hr (fun t ht hW => ⟨⟨_, (), rfl, by simp [zCount, *], trivial⟩, hS.F ht⟩) hS.2.2 dX12_count_145
    · skip
      refine lv_tableIn (off := 135) (tgt := 146) hx hb dX12_count_11 (by omega) (by omega) (by rw [hv]; rfl) (by decide) ?_
      refine lv_aload_n hx hb dX12_count_146 rfl (lv_at hl 0 rfl) ?_
      refine y_get (T := TX12) (N := 212) (ci := 12) hx hb hts (zi_12 _) hown hK hP 0 rfl rfl 86 (by decide) tX12_86 (hts _ (zm_757 _)) rfl h0_86 dX12_count_147 ?_
      refine W.widen (k := 0) (n := 0) (Nat.le_of_ble_eq_true rfl) (Nat.le_of_ble_eq_true rfl) ?_
      exact W.iret (v := 0) hx hb hr (fun t ht hW => ⟨⟨_, (), rfl, by simp [zCount, *], trivial⟩, hS.F ht⟩) hS.2.2 dX12_count_150
    · skip
      refine lv_tableIn (off := 140) (tgt := 151) hx hb dX12_count_11 (by omega) (by omega) (by rw [hv]; rfl) (by decide) ?_
      refine lv_aload_n hx hb dX12_count_151 rfl (lv_at hl 0 rfl) ?_
      refine y_get (T := TX12) (N := 212) (ci := 12) hx hb hts (zi_12 _) hown hK hP 0 rfl rfl 85 (by decide) tX12_85 (hts _ (zm_758 _)) rfl h0_85 dX12_count_152 ?_
      refine W.widen (k := 0) (n := 0) (Nat.le_of_ble_eq_true rfl) (Nat.le_of_ble_eq_true rfl) ?_
      exact W.iret (v := 0) hx hb hr (fun t ht hW => ⟨⟨_, (), rfl, by simp [zCount, *], trivial⟩, hS.F ht⟩) hS.2.2 dX12_count_155
    · skip
      refine lv_tableIn (off := 145) (tgt := 156) hx hb dX12_count_11 (by omega) (by omega) (by rw [hv]; rfl) (by decide) ?_
      refine lv_aload_n hx hb dX12_count_156 rfl (lv_at hl 0 rfl) ?_
      refine y_get (T := TX12) (N := 212) (ci := 12) hx hb hts (zi_12 _) hown hK hP 0 rfl rfl 169 (by decide) tX12_169 (hts _ (zm_675 _)) rfl h0_169 dX12_count_157 ?_
      refine W.widen (k := 0) (n := 0) (Nat.le_of_ble_eq_true rfl) (Nat.le_of_ble_eq_true rfl) ?_
      exact W.iret (v := 0) hx hb hr (fun t ht hW => ⟨⟨_, (), rfl, by simp [zCount, *], trivial⟩, hS.F ht⟩) hS.2.2 dX12_count_160

set_option maxHeartbeats 8000000 in
set_option maxRecDepth 100000 in
/--  -/
theorem r_look (l : Launch) (D : va_G) (x : Nat → ClassId) (n0 : Int32) (n1 : Int32) (h0 : Nat) (f0 : Nat → Value) (sz : Nat) (h0_195 : f0 195 = .int 0) (h0_104 : f0 104 = .int 0) (h0_196 : f0 196 = .int 0) : Met l yX12_look (.code yX12_look cX12_look 14 (some .int) :: zW) ({ frames := 1, cells := (0), slots := (0), locals := 21 }) (va_Pc [.ref h0, .int n0, .int n1] (fun U => U.heap.size = sz ∧ va_P D vwCl [(h0, .inr (12, zf 212 f0))] U.heap ∧ zK x D U ∧ va_D (fun _ => True) [(h0, .inr (12, zf 212 f0))])) (va_Qi (fun (r : Int32) (u : Unit) => r = (-1)) (fun u t => True) (va_A [(h0, .inr (12, zf 212 f0))] sz)) (0) (0) (va_A [(h0, .inr (12, zf 212 f0))] sz) := by
  refine Met.ofW (cc := cX12_look) (maxL := 14) (ret := (some .int)) (by decide) rfl ?_
  intro p e s m args below meth c s₁ B hml hv
  obtain ⟨rfl, hsz, hP, hZ, hD0⟩ := hv
  have hK := hZ.1
  have hx := B.exec
  have hb := B.bytes
  have hr := B.returns
  have hts := atoms_spec (ws := .code yX12_look cX12_look 14 (some .int) :: zW) B.pre
  have hown : s.vm.findClass RX12 = some m.cls := findClass_of_methodNamed B.named
  have hlocks := B.notSynchronized
  subst hsz
  have hD := hD0.self (sz := s.heap.size)
  generalize hAe : va_A [(h0, .inr (12, zf 212 f0))] s.heap.size = A at hD ⊢
  have hA : ∀ q : Nat, s.heap.size ≤ q → A q := fun q h => by rw [← hAe]; exact Or.inr h
  have hS : va_S A s.heap s.heap [] := va_S.rf
  have hP : va_P D vwCl [(h0, .inr (12, zf 212 f0))] s.heap := hP
  have hl := lv_entry ([.ref h0, .int n0, .int n1]) (n := 14) (Nat.le_of_ble_eq_true rfl)
  rw [lg_entry_eq]
  generalize (lg_sl ([.ref h0, .int n0, .int n1]) ++ List.replicate (14 - (lg_sl ([.ref h0, .int n0, .int n1])).length) Slot.unset).toArray = ls at hl ⊢
  have hl : lv_has ls 14 [(0, .ref h0), (1, .int n0), (2, .int n1)] := hl
  refine lv_aload_n hx hb dX12_look_0 rfl (lv_at hl 0 rfl) ?_
  refine y_get (T := TX12) (N := 212) (ci := 12) hx hb hts (zi_12 _) hown hK hP 0 rfl rfl 196 (by decide) tX12_196 (hts _ (zm_637 _)) rfl h0_196 dX12_look_1 ?_
  refine lv_if_eq (tgt := 10) hx hb dX12_look_4 (by decide) (fun _ => ?_) (fun c9 => absurd (by decide) c9)
  refine lv_aload_n hx hb dX12_look_10 rfl (lv_at hl 0 rfl) ?_
  refine y_get (T := TX12) (N := 212) (ci := 12) hx hb hts (zi_12 _) hown hK hP 0 rfl rfl 195 (by decide) tX12_195 (hts _ (zm_630 _)) rfl h0_195 dX12_look_11 ?_
  refine lv_istore_n (lv' := [(3, .int 0), (0, .ref h0), (1, .int n0), (2, .int n1)]) hx hb dX12_look_14 rfl hl (by decide) rfl (fun ls hl => ?_)
  refine lv_aload_n hx hb dX12_look_15 rfl (lv_at hl 1 rfl) ?_
  refine lv_iconst (v := 0) hx hb dX12_look_16 (by decide) ?_
  refine y_put (T := TX12) (N := 212) (ci := 12) hx hb hts (zi_12 _) hown hK hP hD hS 0 rfl rfl 195 (by decide) tX12_195 uX12_195 (hts _ (zm_630 _)) rfl rfl rfl dX12_look_17 (fun H locs f_1 ek_2 ok_3 hP hD hS => ?_)
  have hP : va_P D vwCl [(h0, .inr (12, zf 212 f_1))] H := hP
  have hD : va_D A [(h0, .inr (12, zf 212 f_1))] := hD
  refine lv_iload_n hx hb dX12_look_20 rfl (lv_at hl 0 rfl) ?_
  refine lv_if_le (tgt := 39) hx hb dX12_look_21 (by decide) (fun _ => ?_) (fun c9 => absurd (by decide) c9)
  refine lv_iconst (v := 0) hx hb dX12_look_39 (by decide) ?_
  refine lv_istore (lv' := [(4, .int 0), (3, .int 0), (0, .ref h0), (1, .int n0), (2, .int n1)]) hx hb dX12_look_40 hl (by decide) rfl (fun ls hl => ?_)
  refine lv_iload_n hx hb dX12_look_42 rfl (lv_at hl 4 rfl) ?_
  refine lv_if_lt (tgt := 64) hx hb dX12_look_43 (by decide) (fun c_4 => ?_) (fun c_4 => ?_)
  · skip
    refine lv_iconst (v := (-1)) hx hb dX12_look_64 (by decide) ?_
    refine W.widen (k := 0) (n := 0) (Nat.le_of_ble_eq_true rfl) (Nat.le_of_ble_eq_true rfl) ?_
    exact W.iret (v := (-1)) hx hb hr (fun t ht hW => ⟨⟨_, (), rfl, rfl, trivial⟩, hS.F ht⟩) hS.2.2 dX12_look_65
  · skip
    refine lv_iload_n hx hb dX12_look_46 rfl (lv_at hl 4 rfl) ?_
    refine lv_iconst (v := 4) hx hb dX12_look_47 (by decide) ?_
    refine lv_icmp_gt (tgt := 64) hx hb dX12_look_48 (by decide) (fun c_5 => ?_) (fun c_5 => ?_)
    · skip
      refine lv_iconst (v := (-1)) hx hb dX12_look_64 (by decide) ?_
      refine W.widen (k := 0) (n := 0) (Nat.le_of_ble_eq_true rfl) (Nat.le_of_ble_eq_true rfl) ?_
      exact W.iret (v := (-1)) hx hb hr (fun t ht hW => ⟨⟨_, (), rfl, rfl, trivial⟩, hS.F ht⟩) hS.2.2 dX12_look_65
    · skip
      refine lv_iload hx hb dX12_look_51 (lv_at hl 0 rfl) ?_
      refine lv_if_ne (tgt := 66) hx hb dX12_look_53 (by decide) (fun c9 => absurd (by decide) c9) (fun _ => ?_)
      refine lv_aload_n hx hb dX12_look_56 rfl (lv_at hl 2 rfl) ?_
      refine lv_iload_n hx hb dX12_look_57 rfl (lv_at hl 3 rfl) ?_
      have hPc := hP.sub (ws' := [(h0, .inr (12, zf 212 f_1))]) [0] rfl
      have hDc := hD.sub (ws' := [(h0, .inr (12, zf 212 f_1))]) [0] (by decide) rfl
      have hFc := va_free (wc := [(h0, .inr (12, zf 212 f_1))]) hD hS hA [0] rfl
      have h_7 : 0 + 0 ≤ 0 ∧ 0 + 0 ≤ 0 := by omega
      refine va_calli (va_runV (As := [.int n0]) (rest := []) ⟨hx, hb, hml, hown, hts⟩ (r_isLiving l D x n0 h0 f_1 H.size ((ok_3 104 (by decide)).trans h0_104)) ⟨callB_of 1 hts (zgood (zm_785 _) rfl) rfl rfl rfl (hts _ (zm_459 _)) (hts _ (zm_671 _)) ⟨by decide, by decide, by decide +kernel⟩ ⟨Nat.le_of_ble_eq_true rfl, Nat.le_of_ble_eq_true rfl⟩, hts _ (zm_786 _), hts _ (zm_787 _)⟩ ⟨fun a U g mk q => by obtain ⟨q0, q1, qP, qK, qD⟩ := q; exact ⟨q0, q1, qP, ZK.calling (u := U) zN_ok rfl qK, qD⟩, va_recv hK hPc (ci := 12) (q0 := 0) rfl rfl, fun U hU hW => ⟨rfl, by rw [hU], by rw [hU]; exact hPc, ZK.warm zN_ok hW hZ, hDc.weaken (fun _ _ _ _ => trivial)⟩⟩ rfl rfl hl.1 rfl (lv_room (Nat.le_of_ble_eq_true rfl)) dX12_look_58 h_7) hS (fun q _ h => hFc q h) hFc (fun r_6 u t H1 locs ht hvm hw_6 hB hz1 hk1 hS => ?_)
      obtain ⟨hP1, hD1⟩ := hB
      rw [ht] at hP1
      try dsimp only at hw_6
      obtain ⟨hP, hD⟩ := va_join (wr := []) (w1 := [(h0, .inr (12, zf 212 f_1))]) hP hD [0] [] rfl rfl (by decide) (by decide) hk1 hFc hP1 hD1
      generalize H1 = H at hP hS ⊢
      have hP : va_P D vwCl [(h0, .inr (12, zf 212 f_1))] H := hP
      have hD : va_D A [(h0, .inr (12, zf 212 f_1))] := hD
      refine W.widen (k := 0) (n := 0) (by omega) (by omega) ?_
      obtain rfl : r_6 = 0 := hw_6
      refine lv_if_ne (tgt := 66) hx hb dX12_look_61 (by decide) (fun c9 => absurd (by decide) c9) (fun _ => ?_)
      refine lv_iconst (v := (-1)) hx hb dX12_look_64 (by decide) ?_
      refine W.widen (k := 0) (n := 0) (Nat.le_of_ble_eq_true rfl) (Nat.le_of_ble_eq_true rfl) ?_
      exact W.iret (v := (-1)) hx hb hr (fun t ht hW => ⟨⟨_, (), rfl, rfl, trivial⟩, hS.F ht⟩) hS.2.2 dX12_look_65
