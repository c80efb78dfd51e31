theorem dX3_begin_0 : decode cX3_begin 0 = .ok (.aload_n 0, 1) := by decide +kernel
theorem dX3_begin_1 : decode cX3_begin 1 = .ok (.iload_n 1, 1) := by decide +kernel
theorem dX3_begin_2 : decode cX3_begin 2 = .ok (.putfield 16, 3) := by decide +kernel
theorem dX3_begin_5 : decode cX3_begin 5 = .ok (.aload_n 0, 1) := by decide +kernel
theorem dX3_begin_6 : decode cX3_begin 6 = .ok (.lload_n 2, 1) := by decide +kernel
theorem dX3_begin_7 : decode cX3_begin 7 = .ok (.putfield 20, 3) := by decide +kernel
theorem dX3_begin_10 : decode cX3_begin 10 = .ok (.aload_n 0, 1) := by decide +kernel
theorem dX3_begin_11 : decode cX3_begin 11 = .ok (.iconst 0, 1) := by decide +kernel
theorem dX3_begin_12 : decode cX3_begin 12 = .ok (.putfield 24, 3) := by decide +kernel
theorem dX3_begin_15 : decode cX3_begin 15 = .ok (.aload_n 0, 1) := by decide +kernel
theorem dX3_begin_16 : decode cX3_begin 16 = .ok (.iconst 0, 1) := by decide +kernel
theorem dX3_begin_17 : decode cX3_begin 17 = .ok (.putfield 27, 3) := by decide +kernel
theorem dX3_begin_20 : decode cX3_begin 20 = .ok (.aload_n 0, 1) := by decide +kernel
theorem dX3_begin_21 : decode cX3_begin 21 = .ok (.iconst 0, 1) := by decide +kernel
theorem dX3_begin_22 : decode cX3_begin 22 = .ok (.putfield 30, 3) := by decide +kernel
theorem dX3_begin_25 : decode cX3_begin 25 = .ok (.aload_n 0, 1) := by decide +kernel
theorem dX3_begin_26 : decode cX3_begin 26 = .ok (.iconst 0, 1) := by decide +kernel
theorem dX3_begin_27 : decode cX3_begin 27 = .ok (.putfield 33, 3) := by decide +kernel
theorem dX3_begin_30 : decode cX3_begin 30 = .ok (.aload_n 0, 1) := by decide +kernel
theorem dX3_begin_31 : decode cX3_begin 31 = .ok (.iconst 0, 1) := by decide +kernel
theorem dX3_begin_32 : decode cX3_begin 32 = .ok (.putfield 36, 3) := by decide +kernel
theorem dX3_begin_35 : decode cX3_begin 35 = .ok (.aload_n 0, 1) := by decide +kernel
theorem dX3_begin_36 : decode cX3_begin 36 = .ok (.iconst 0, 1) := by decide +kernel
theorem dX3_begin_37 : decode cX3_begin 37 = .ok (.putfield 40, 3) := by decide +kernel
theorem dX3_begin_40 : decode cX3_begin 40 = .ok (.return_, 1) := by decide +kernel
theorem dX7_begin_0 : decode cX7_begin 0 = .ok (.aload_n 0, 1) := by decide +kernel
theorem dX7_begin_1 : decode cX7_begin 1 = .ok (.iconst 0, 1) := by decide +kernel
theorem dX7_begin_2 : decode cX7_begin 2 = .ok (.putfield 46, 3) := by decide +kernel
theorem dX7_begin_5 : decode cX7_begin 5 = .ok (.aload_n 0, 1) := by decide +kernel
theorem dX7_begin_6 : decode cX7_begin 6 = .ok (.iconst 0, 1) := by decide +kernel
theorem dX7_begin_7 : decode cX7_begin 7 = .ok (.putfield 50, 3) := by decide +kernel
theorem dX7_begin_10 : decode cX7_begin 10 = .ok (.aload_n 0, 1) := by decide +kernel
theorem dX7_begin_11 : decode cX7_begin 11 = .ok (.iconst 0, 1) := by decide +kernel
theorem dX7_begin_12 : decode cX7_begin 12 = .ok (.putfield 53, 3) := by decide +kernel
theorem dX7_begin_15 : decode cX7_begin 15 = .ok (.aload_n 0, 1) := by decide +kernel
theorem dX7_begin_16 : decode cX7_begin 16 = .ok (.iconst 0, 1) := by decide +kernel
theorem dX7_begin_17 : decode cX7_begin 17 = .ok (.putfield 56, 3) := by decide +kernel
theorem dX7_begin_20 : decode cX7_begin 20 = .ok (.aload_n 0, 1) := by decide +kernel
theorem dX7_begin_21 : decode cX7_begin 21 = .ok (.getfield 42, 3) := by decide +kernel
theorem dX7_begin_24 : decode cX7_begin 24 = .ok (.invokevirtual 59, 3) := by decide +kernel
theorem dX7_begin_27 : decode cX7_begin 27 = .ok (.aload_n 0, 1) := by decide +kernel
theorem dX7_begin_28 : decode cX7_begin 28 = .ok (.iconst 0, 1) := by decide +kernel
theorem dX7_begin_29 : decode cX7_begin 29 = .ok (.putfield 62, 3) := by decide +kernel
theorem dX7_begin_32 : decode cX7_begin 32 = .ok (.aload_n 0, 1) := by decide +kernel
theorem dX7_begin_33 : decode cX7_begin 33 = .ok (.iconst (-1), 1) := by decide +kernel
theorem dX7_begin_34 : decode cX7_begin 34 = .ok (.putfield 65, 3) := by decide +kernel
theorem dX7_begin_37 : decode cX7_begin 37 = .ok (.aload_n 0, 1) := by decide +kernel
theorem dX7_begin_38 : decode cX7_begin 38 = .ok (.iconst 0, 1) := by decide +kernel
theorem dX7_begin_39 : decode cX7_begin 39 = .ok (.putfield 68, 3) := by decide +kernel
theorem dX7_begin_42 : decode cX7_begin 42 = .ok (.aload_n 0, 1) := by decide +kernel
theorem dX7_begin_43 : decode cX7_begin 43 = .ok (.iconst 0, 1) := by decide +kernel
theorem dX7_begin_44 : decode cX7_begin 44 = .ok (.putfield 71, 3) := by decide +kernel
theorem dX7_begin_47 : decode cX7_begin 47 = .ok (.aload_n 0, 1) := by decide +kernel
theorem dX7_begin_48 : decode cX7_begin 48 = .ok (.aconst_null, 1) := by decide +kernel
theorem dX7_begin_49 : decode cX7_begin 49 = .ok (.putfield 75, 3) := by decide +kernel
theorem dX7_begin_52 : decode cX7_begin 52 = .ok (.return_, 1) := by decide +kernel
theorem dX10_begin_0 : decode cX10_begin 0 = .ok (.aload_n 0, 1) := by decide +kernel
theorem dX10_begin_1 : decode cX10_begin 1 = .ok (.iconst 0, 1) := by decide +kernel
theorem dX10_begin_2 : decode cX10_begin 2 = .ok (.putfield 90, 3) := by decide +kernel
theorem dX10_begin_5 : decode cX10_begin 5 = .ok (.aload_n 0, 1) := by decide +kernel
theorem dX10_begin_6 : decode cX10_begin 6 = .ok (.iconst 0, 1) := by decide +kernel
theorem dX10_begin_7 : decode cX10_begin 7 = .ok (.putfield 93, 3) := by decide +kernel
theorem dX10_begin_10 : decode cX10_begin 10 = .ok (.aload_n 0, 1) := by decide +kernel
theorem dX10_begin_11 : decode cX10_begin 11 = .ok (.iconst 0, 1) := by decide +kernel
theorem dX10_begin_12 : decode cX10_begin 12 = .ok (.putfield 96, 3) := by decide +kernel
theorem dX10_begin_15 : decode cX10_begin 15 = .ok (.aload_n 0, 1) := by decide +kernel
theorem dX10_begin_16 : decode cX10_begin 16 = .ok (.iconst 0, 1) := by decide +kernel
theorem dX10_begin_17 : decode cX10_begin 17 = .ok (.putfield 99, 3) := by decide +kernel
theorem dX10_begin_20 : decode cX10_begin 20 = .ok (.aload_n 0, 1) := by decide +kernel
theorem dX10_begin_21 : decode cX10_begin 21 = .ok (.iconst 0, 1) := by decide +kernel
theorem dX10_begin_22 : decode cX10_begin 22 = .ok (.putfield 102, 3) := by decide +kernel
theorem dX10_begin_25 : decode cX10_begin 25 = .ok (.aload_n 0, 1) := by decide +kernel
theorem dX10_begin_26 : decode cX10_begin 26 = .ok (.iconst 0, 1) := by decide +kernel
theorem dX10_begin_27 : decode cX10_begin 27 = .ok (.putfield 105, 3) := by decide +kernel
theorem dX10_begin_30 : decode cX10_begin 30 = .ok (.aload_n 0, 1) := by decide +kernel
theorem dX10_begin_31 : decode cX10_begin 31 = .ok (.getfield 72, 3) := by decide +kernel
theorem dX10_begin_34 : decode cX10_begin 34 = .ok (.iconst 0, 1) := by decide +kernel
theorem dX10_begin_35 : decode cX10_begin 35 = .ok (.lconst 0, 1) := by decide +kernel
theorem dX10_begin_36 : decode cX10_begin 36 = .ok (.invokevirtual 108, 3) := by decide +kernel
theorem dX10_begin_39 : decode cX10_begin 39 = .ok (.aload_n 0, 1) := by decide +kernel
theorem dX10_begin_40 : decode cX10_begin 40 = .ok (.getfield 79, 3) := by decide +kernel
theorem dX10_begin_43 : decode cX10_begin 43 = .ok (.invokevirtual 112, 3) := by decide +kernel
theorem dX10_begin_46 : decode cX10_begin 46 = .ok (.return_, 1) := by decide +kernel
theorem dX5_begin_0 : decode cX5_begin 0 = .ok (.aload_n 0, 1) := by decide +kernel
theorem dX5_begin_1 : decode cX5_begin 1 = .ok (.iload_n 1, 1) := by decide +kernel
theorem dX5_begin_2 : decode cX5_begin 2 = .ok (.putfield 24, 3) := by decide +kernel
theorem dX5_begin_5 : decode cX5_begin 5 = .ok (.aload_n 0, 1) := by decide +kernel
theorem dX5_begin_6 : decode cX5_begin 6 = .ok (.aload_n 2, 1) := by decide +kernel
theorem dX5_begin_7 : decode cX5_begin 7 = .ok (.putfield 28, 3) := by decide +kernel
theorem dX5_begin_10 : decode cX5_begin 10 = .ok (.aload_n 0, 1) := by decide +kernel
theorem dX5_begin_11 : decode cX5_begin 11 = .ok (.iconst 0, 1) := by decide +kernel
theorem dX5_begin_12 : decode cX5_begin 12 = .ok (.putfield 32, 3) := by decide +kernel
theorem dX5_begin_15 : decode cX5_begin 15 = .ok (.aload_n 0, 1) := by decide +kernel
theorem dX5_begin_16 : decode cX5_begin 16 = .ok (.iconst 0, 1) := by decide +kernel
theorem dX5_begin_17 : decode cX5_begin 17 = .ok (.putfield 35, 3) := by decide +kernel
theorem dX5_begin_20 : decode cX5_begin 20 = .ok (.aload_n 0, 1) := by decide +kernel
theorem dX5_begin_21 : decode cX5_begin 21 = .ok (.lconst 0, 1) := by decide +kernel
theorem dX5_begin_22 : decode cX5_begin 22 = .ok (.putfield 38, 3) := by decide +kernel
theorem dX5_begin_25 : decode cX5_begin 25 = .ok (.aload_n 0, 1) := by decide +kernel
theorem dX5_begin_26 : decode cX5_begin 26 = .ok (.iconst 0, 1) := by decide +kernel
theorem dX5_begin_27 : decode cX5_begin 27 = .ok (.putfield 42, 3) := by decide +kernel
theorem dX5_begin_30 : decode cX5_begin 30 = .ok (.aload_n 0, 1) := by decide +kernel
theorem dX5_begin_31 : decode cX5_begin 31 = .ok (.iconst 0, 1) := by decide +kernel
theorem dX5_begin_32 : decode cX5_begin 32 = .ok (.putfield 45, 3) := by decide +kernel
theorem dX5_begin_35 : decode cX5_begin 35 = .ok (.aload_n 0, 1) := by decide +kernel
theorem dX5_begin_36 : decode cX5_begin 36 = .ok (.iconst 0, 1) := by decide +kernel
theorem dX5_begin_37 : decode cX5_begin 37 = .ok (.putfield 48, 3) := by decide +kernel
theorem dX5_begin_40 : decode cX5_begin 40 = .ok (.aload_n 0, 1) := by decide +kernel
theorem dX5_begin_41 : decode cX5_begin 41 = .ok (.iconst 0, 1) := by decide +kernel
theorem dX5_begin_42 : decode cX5_begin 42 = .ok (.putfield 51, 3) := by decide +kernel
theorem dX5_begin_45 : decode cX5_begin 45 = .ok (.aload_n 0, 1) := by decide +kernel
theorem dX5_begin_46 : decode cX5_begin 46 = .ok (.iconst 0, 1) := by decide +kernel
theorem dX5_begin_47 : decode cX5_begin 47 = .ok (.putfield 54, 3) := by decide +kernel
theorem dX5_begin_50 : decode cX5_begin 50 = .ok (.aload_n 0, 1) := by decide +kernel
theorem dX5_begin_51 : decode cX5_begin 51 = .ok (.iconst 0, 1) := by decide +kernel
theorem dX5_begin_52 : decode cX5_begin 52 = .ok (.putfield 57, 3) := by decide +kernel
theorem dX5_begin_55 : decode cX5_begin 55 = .ok (.aload_n 0, 1) := by decide +kernel
theorem dX5_begin_56 : decode cX5_begin 56 = .ok (.iload_n 1, 1) := by decide +kernel
theorem dX5_begin_57 : decode cX5_begin 57 = .ok (.i2l, 1) := by decide +kernel
theorem dX5_begin_58 : decode cX5_begin 58 = .ok (.putfield 60, 3) := by decide +kernel
theorem dX5_begin_61 : decode cX5_begin 61 = .ok (.aload_n 0, 1) := by decide +kernel
theorem dX5_begin_62 : decode cX5_begin 62 = .ok (.getfield 14, 3) := by decide +kernel
theorem dX5_begin_65 : decode cX5_begin 65 = .ok (.invokevirtual 63, 3) := by decide +kernel
theorem dX5_begin_68 : decode cX5_begin 68 = .ok (.aload_n 0, 1) := by decide +kernel
theorem dX5_begin_69 : decode cX5_begin 69 = .ok (.getfield 20, 3) := by decide +kernel
theorem dX5_begin_72 : decode cX5_begin 72 = .ok (.invokevirtual 63, 3) := by decide +kernel
theorem dX5_begin_75 : decode cX5_begin 75 = .ok (.return_, 1) := by decide +kernel
theorem dX2_isBusy_0 : decode cX2_isBusy 0 = .ok (.iconst 0, 1) := by decide +kernel
theorem dX2_isBusy_1 : decode cX2_isBusy 1 = .ok (.istore_n 2, 1) := by decide +kernel
theorem dX2_isBusy_2 : decode cX2_isBusy 2 = .ok (.iload_n 2, 1) := by decide +kernel
theorem dX2_isBusy_3 : decode cX2_isBusy 3 = .ok (.aload_n 0, 1) := by decide +kernel
theorem dX2_isBusy_4 : decode cX2_isBusy 4 = .ok (.getfield 90, 3) := by decide +kernel
theorem dX2_isBusy_7 : decode cX2_isBusy 7 = .ok (.if_icmp .ge 34, 3) := by decide +kernel
theorem dX2_isBusy_41 : decode cX2_isBusy 41 = .ok (.iconst 0, 1) := by decide +kernel
theorem dX2_isBusy_42 : decode cX2_isBusy 42 = .ok (.ireturn, 1) := by decide +kernel
theorem dX2_create_0 : decode cX2_create 0 = .ok (.iconst 0, 1) := by decide +kernel
theorem dX2_create_1 : decode cX2_create 1 = .ok (.istore_n 1, 1) := by decide +kernel
theorem dX2_create_2 : decode cX2_create 2 = .ok (.iload_n 1, 1) := by decide +kernel
theorem dX2_create_3 : decode cX2_create 3 = .ok (.aload_n 0, 1) := by decide +kernel
theorem dX2_create_4 : decode cX2_create 4 = .ok (.getfield 39, 3) := by decide +kernel
theorem dX2_create_7 : decode cX2_create 7 = .ok (.arraylength, 1) := by decide +kernel
theorem dX2_create_8 : decode cX2_create 8 = .ok (.if_icmp .ge 22, 3) := by decide +kernel
theorem dX2_create_11 : decode cX2_create 11 = .ok (.aload_n 0, 1) := by decide +kernel
theorem dX2_create_12 : decode cX2_create 12 = .ok (.aload_n 0, 1) := by decide +kernel
theorem dX2_create_13 : decode cX2_create 13 = .ok (.getfield 39, 3) := by decide +kernel
theorem dX2_create_16 : decode cX2_create 16 = .ok (.iload_n 1, 1) := by decide +kernel
theorem dX2_create_17 : decode cX2_create 17 = .ok (.aaload, 1) := by decide +kernel
theorem dX2_create_18 : decode cX2_create 18 = .ok (.invokevirtual 111, 3) := by decide +kernel
theorem dX2_create_21 : decode cX2_create 21 = .ok (.ifCond .eq 9, 3) := by decide +kernel
theorem dX2_create_30 : decode cX2_create 30 = .ok (.iload_n 1, 1) := by decide +kernel
theorem dX2_create_31 : decode cX2_create 31 = .ok (.aload_n 0, 1) := by decide +kernel
theorem dX2_create_32 : decode cX2_create 32 = .ok (.getfield 39, 3) := by decide +kernel
theorem dX2_create_35 : decode cX2_create 35 = .ok (.arraylength, 1) := by decide +kernel
theorem dX2_create_36 : decode cX2_create 36 = .ok (.if_icmp .ge 12, 3) := by decide +kernel
theorem dX2_create_39 : decode cX2_create 39 = .ok (.aload_n 0, 1) := by decide +kernel
theorem dX2_create_40 : decode cX2_create 40 = .ok (.getfield 39, 3) := by decide +kernel
theorem dX2_create_43 : decode cX2_create 43 = .ok (.iload_n 1, 1) := by decide +kernel
theorem dX2_create_44 : decode cX2_create 44 = .ok (.aaload, 1) := by decide +kernel
theorem dX2_create_45 : decode cX2_create 45 = .ok (.goto 4, 3) := by decide +kernel
theorem dX2_create_49 : decode cX2_create 49 = .ok (.astore_n 2, 1) := by decide +kernel
theorem dX2_create_50 : decode cX2_create 50 = .ok (.aload_n 0, 1) := by decide +kernel
theorem dX2_create_51 : decode cX2_create 51 = .ok (.getfield 90, 3) := by decide +kernel
theorem dX2_create_54 : decode cX2_create 54 = .ok (.ifCond .lt 27, 3) := by decide +kernel
theorem dX2_create_57 : decode cX2_create 57 = .ok (.aload_n 0, 1) := by decide +kernel
theorem dX2_create_58 : decode cX2_create 58 = .ok (.getfield 90, 3) := by decide +kernel
theorem dX2_create_61 : decode cX2_create 61 = .ok (.aload_n 0, 1) := by decide +kernel
theorem dX2_create_62 : decode cX2_create 62 = .ok (.getfield 30, 3) := by decide +kernel
theorem dX2_create_65 : decode cX2_create 65 = .ok (.arraylength, 1) := by decide +kernel
theorem dX2_create_66 : decode cX2_create 66 = .ok (.if_icmp .ge 15, 3) := by decide +kernel
theorem dX2_create_69 : decode cX2_create 69 = .ok (.aload_n 0, 1) := by decide +kernel
theorem dX2_create_70 : decode cX2_create 70 = .ok (.getfield 30, 3) := by decide +kernel
theorem dX2_create_73 : decode cX2_create 73 = .ok (.aload_n 0, 1) := by decide +kernel
theorem dX2_create_74 : decode cX2_create 74 = .ok (.getfield 90, 3) := by decide +kernel
theorem dX2_create_77 : decode cX2_create 77 = .ok (.aaload, 1) := by decide +kernel
theorem dX2_create_78 : decode cX2_create 78 = .ok (.goto 4, 3) := by decide +kernel
theorem dX2_create_82 : decode cX2_create 82 = .ok (.astore_n 3, 1) := by decide +kernel
theorem dX2_create_83 : decode cX2_create 83 = .ok (.aload_n 2, 1) := by decide +kernel
theorem dX2_create_84 : decode cX2_create 84 = .ok (.ifnull 7, 3) := by decide +kernel
theorem dX2_create_87 : decode cX2_create 87 = .ok (.aload_n 3, 1) := by decide +kernel
theorem dX2_create_88 : decode cX2_create 88 = .ok (.ifnonnull 5, 3) := by decide +kernel
theorem dX2_create_93 : decode cX2_create 93 = .ok (.aload_n 2, 1) := by decide +kernel
theorem dX2_create_94 : decode cX2_create 94 = .ok (.invokevirtual 115, 3) := by decide +kernel
theorem dX2_create_97 : decode cX2_create 97 = .ok (.aload_n 3, 1) := by decide +kernel
theorem dX2_create_98 : decode cX2_create 98 = .ok (.aload_n 0, 1) := by decide +kernel
theorem dX2_create_99 : decode cX2_create 99 = .ok (.getfield 90, 3) := by decide +kernel
theorem dX2_create_102 : decode cX2_create 102 = .ok (.aload_n 2, 1) := by decide +kernel
theorem dX2_create_103 : decode cX2_create 103 = .ok (.invokevirtual 118, 3) := by decide +kernel
theorem dX2_create_106 : decode cX2_create 106 = .ok (.aload_n 0, 1) := by decide +kernel
theorem dX2_create_107 : decode cX2_create 107 = .ok (.dup, 1) := by decide +kernel
theorem dX2_create_108 : decode cX2_create 108 = .ok (.getfield 90, 3) := by decide +kernel
theorem dX2_create_111 : decode cX2_create 111 = .ok (.iconst 1, 1) := by decide +kernel
theorem dX2_create_112 : decode cX2_create 112 = .ok (.iadd, 1) := by decide +kernel
theorem dX2_create_113 : decode cX2_create 113 = .ok (.putfield 90, 3) := by decide +kernel
theorem dX2_create_116 : decode cX2_create 116 = .ok (.aload_n 3, 1) := by decide +kernel
theorem dX2_create_117 : decode cX2_create 117 = .ok (.areturn, 1) := by decide +kernel
theorem dX10_levelAt_0 : decode cX10_levelAt 0 = .ok (.iload_n 1, 1) := by decide +kernel
theorem dX10_levelAt_1 : decode cX10_levelAt 1 = .ok (.ifCond .lt 29, 3) := by decide +kernel
theorem dX10_levelAt_30 : decode cX10_levelAt 30 = .ok (.aconst_null, 1) := by decide +kernel
theorem dX10_levelAt_31 : decode cX10_levelAt 31 = .ok (.areturn, 1) := by decide +kernel
theorem dX10_top_0 : decode cX10_top 0 = .ok (.aload_n 0, 1) := by decide +kernel
theorem dX10_top_1 : decode cX10_top 1 = .ok (.aload_n 0, 1) := by decide +kernel
theorem dX10_top_2 : decode cX10_top 2 = .ok (.getfield 96, 3) := by decide +kernel
theorem dX10_top_5 : decode cX10_top 5 = .ok (.iconst 1, 1) := by decide +kernel
theorem dX10_top_6 : decode cX10_top 6 = .ok (.isub, 1) := by decide +kernel
theorem dX10_top_7 : decode cX10_top 7 = .ok (.invokevirtual 114, 3) := by decide +kernel
theorem dX10_top_10 : decode cX10_top 10 = .ok (.areturn, 1) := by decide +kernel
theorem dX10_pushLevel_0 : decode cX10_pushLevel 0 = .ok (.aload_n 0, 1) := by decide +kernel
theorem dX10_pushLevel_1 : decode cX10_pushLevel 1 = .ok (.getfield 96, 3) := by decide +kernel
theorem dX10_pushLevel_4 : decode cX10_pushLevel 4 = .ok (.ifCond .lt 15, 3) := by decide +kernel
theorem dX10_pushLevel_7 : decode cX10_pushLevel 7 = .ok (.aload_n 0, 1) := by decide +kernel
theorem dX10_pushLevel_8 : decode cX10_pushLevel 8 = .ok (.getfield 96, 3) := by decide +kernel
theorem dX10_pushLevel_11 : decode cX10_pushLevel 11 = .ok (.aload_n 0, 1) := by decide +kernel
theorem dX10_pushLevel_12 : decode cX10_pushLevel 12 = .ok (.getfield 35, 3) := by decide +kernel
theorem dX10_pushLevel_15 : decode cX10_pushLevel 15 = .ok (.arraylength, 1) := by decide +kernel
theorem dX10_pushLevel_16 : decode cX10_pushLevel 16 = .ok (.if_icmp .lt 5, 3) := by decide +kernel
theorem dX10_pushLevel_21 : decode cX10_pushLevel 21 = .ok (.aload_n 0, 1) := by decide +kernel
theorem dX10_pushLevel_22 : decode cX10_pushLevel 22 = .ok (.getfield 35, 3) := by decide +kernel
theorem dX10_pushLevel_25 : decode cX10_pushLevel 25 = .ok (.aload_n 0, 1) := by decide +kernel
theorem dX10_pushLevel_26 : decode cX10_pushLevel 26 = .ok (.getfield 96, 3) := by decide +kernel
theorem dX10_pushLevel_29 : decode cX10_pushLevel 29 = .ok (.aaload, 1) := by decide +kernel
theorem dX10_pushLevel_30 : decode cX10_pushLevel 30 = .ok (.astore_n 3, 1) := by decide +kernel
theorem dX10_pushLevel_31 : decode cX10_pushLevel 31 = .ok (.aload_n 0, 1) := by decide +kernel
theorem dX10_pushLevel_32 : decode cX10_pushLevel 32 = .ok (.invokevirtual 127, 3) := by decide +kernel
theorem dX10_pushLevel_35 : decode cX10_pushLevel 35 = .ok (.astore 4, 2) := by decide +kernel
theorem dX10_pushLevel_37 : decode cX10_pushLevel 37 = .ok (.aload_n 3, 1) := by decide +kernel
theorem dX10_pushLevel_38 : decode cX10_pushLevel 38 = .ok (.ifnonnull 5, 3) := by decide +kernel
theorem dX10_pushLevel_43 : decode cX10_pushLevel 43 = .ok (.aload_n 3, 1) := by decide +kernel
theorem dX10_pushLevel_44 : decode cX10_pushLevel 44 = .ok (.iload_n 1, 1) := by decide +kernel
theorem dX10_pushLevel_45 : decode cX10_pushLevel 45 = .ok (.putfield 131, 3) := by decide +kernel
theorem dX10_pushLevel_48 : decode cX10_pushLevel 48 = .ok (.aload_n 3, 1) := by decide +kernel
theorem dX10_pushLevel_49 : decode cX10_pushLevel 49 = .ok (.aload_n 0, 1) := by decide +kernel
theorem dX10_pushLevel_50 : decode cX10_pushLevel 50 = .ok (.getfield 134, 3) := by decide +kernel
theorem dX10_pushLevel_53 : decode cX10_pushLevel 53 = .ok (.putfield 138, 3) := by decide +kernel
theorem dX10_pushLevel_56 : decode cX10_pushLevel 56 = .ok (.aload_n 3, 1) := by decide +kernel
theorem dX10_pushLevel_57 : decode cX10_pushLevel 57 = .ok (.iconst 0, 1) := by decide +kernel
theorem dX10_pushLevel_58 : decode cX10_pushLevel 58 = .ok (.putfield 139, 3) := by decide +kernel
theorem dX10_pushLevel_61 : decode cX10_pushLevel 61 = .ok (.aload_n 3, 1) := by decide +kernel
theorem dX10_pushLevel_62 : decode cX10_pushLevel 62 = .ok (.iconst 1, 1) := by decide +kernel
theorem dX10_pushLevel_63 : decode cX10_pushLevel 63 = .ok (.putfield 142, 3) := by decide +kernel
theorem dX10_pushLevel_66 : decode cX10_pushLevel 66 = .ok (.aload_n 3, 1) := by decide +kernel
theorem dX10_pushLevel_67 : decode cX10_pushLevel 67 = .ok (.iload_n 2, 1) := by decide +kernel
theorem dX10_pushLevel_68 : decode cX10_pushLevel 68 = .ok (.putfield 145, 3) := by decide +kernel
theorem dX10_pushLevel_71 : decode cX10_pushLevel 71 = .ok (.aload_n 3, 1) := by decide +kernel
theorem dX10_pushLevel_72 : decode cX10_pushLevel 72 = .ok (.aload_n 0, 1) := by decide +kernel
theorem dX10_pushLevel_73 : decode cX10_pushLevel 73 = .ok (.getfield 90, 3) := by decide +kernel
theorem dX10_pushLevel_76 : decode cX10_pushLevel 76 = .ok (.putfield 148, 3) := by decide +kernel
theorem dX10_pushLevel_79 : decode cX10_pushLevel 79 = .ok (.aload_n 3, 1) := by decide +kernel
theorem dX10_pushLevel_80 : decode cX10_pushLevel 80 = .ok (.aload_n 0, 1) := by decide +kernel
theorem dX10_pushLevel_81 : decode cX10_pushLevel 81 = .ok (.getfield 93, 3) := by decide +kernel
theorem dX10_pushLevel_84 : decode cX10_pushLevel 84 = .ok (.putfield 150, 3) := by decide +kernel
theorem dX10_pushLevel_87 : decode cX10_pushLevel 87 = .ok (.aload_n 3, 1) := by decide +kernel
theorem dX10_pushLevel_88 : decode cX10_pushLevel 88 = .ok (.aload_n 0, 1) := by decide +kernel
theorem dX10_pushLevel_89 : decode cX10_pushLevel 89 = .ok (.getfield 99, 3) := by decide +kernel
theorem dX10_pushLevel_92 : decode cX10_pushLevel 92 = .ok (.putfield 152, 3) := by decide +kernel
theorem dX10_pushLevel_95 : decode cX10_pushLevel 95 = .ok (.aload_n 3, 1) := by decide +kernel
theorem dX10_pushLevel_96 : decode cX10_pushLevel 96 = .ok (.aload_n 0, 1) := by decide +kernel
theorem dX10_pushLevel_97 : decode cX10_pushLevel 97 = .ok (.getfield 102, 3) := by decide +kernel
theorem dX10_pushLevel_100 : decode cX10_pushLevel 100 = .ok (.putfield 154, 3) := by decide +kernel
theorem dX10_pushLevel_103 : decode cX10_pushLevel 103 = .ok (.aload_n 3, 1) := by decide +kernel
theorem dX10_pushLevel_104 : decode cX10_pushLevel 104 = .ok (.aload_n 0, 1) := by decide +kernel
theorem dX10_pushLevel_105 : decode cX10_pushLevel 105 = .ok (.getfield 79, 3) := by decide +kernel
theorem dX10_pushLevel_108 : decode cX10_pushLevel 108 = .ok (.getfield 156, 3) := by decide +kernel
theorem dX10_pushLevel_111 : decode cX10_pushLevel 111 = .ok (.putfield 159, 3) := by decide +kernel
theorem dX10_pushLevel_114 : decode cX10_pushLevel 114 = .ok (.aload_n 3, 1) := by decide +kernel
theorem dX10_pushLevel_115 : decode cX10_pushLevel 115 = .ok (.aload_n 0, 1) := by decide +kernel
theorem dX10_pushLevel_116 : decode cX10_pushLevel 116 = .ok (.getfield 134, 3) := by decide +kernel
theorem dX10_pushLevel_119 : decode cX10_pushLevel 119 = .ok (.putfield 162, 3) := by decide +kernel
theorem dX10_pushLevel_122 : decode cX10_pushLevel 122 = .ok (.aload_n 3, 1) := by decide +kernel
theorem dX10_pushLevel_123 : decode cX10_pushLevel 123 = .ok (.aload_n 0, 1) := by decide +kernel
theorem dX10_pushLevel_124 : decode cX10_pushLevel 124 = .ok (.getfield 165, 3) := by decide +kernel
theorem dX10_pushLevel_127 : decode cX10_pushLevel 127 = .ok (.putfield 168, 3) := by decide +kernel
theorem dX10_pushLevel_130 : decode cX10_pushLevel 130 = .ok (.aload_n 3, 1) := by decide +kernel
theorem dX10_pushLevel_131 : decode cX10_pushLevel 131 = .ok (.iconst 0, 1) := by decide +kernel
theorem dX10_pushLevel_132 : decode cX10_pushLevel 132 = .ok (.putfield 171, 3) := by decide +kernel
theorem dX10_pushLevel_135 : decode cX10_pushLevel 135 = .ok (.aload_n 3, 1) := by decide +kernel
theorem dX10_pushLevel_136 : decode cX10_pushLevel 136 = .ok (.getfield 175, 3) := by decide +kernel
theorem dX10_pushLevel_139 : decode cX10_pushLevel 139 = .ok (.invokevirtual 118, 3) := by decide +kernel
theorem dX10_pushLevel_142 : decode cX10_pushLevel 142 = .ok (.aload 4, 2) := by decide +kernel
theorem dX10_pushLevel_144 : decode cX10_pushLevel 144 = .ok (.ifnull 25, 3) := by decide +kernel
theorem dX10_pushLevel_169 : decode cX10_pushLevel 169 = .ok (.aload_n 0, 1) := by decide +kernel
theorem dX10_pushLevel_170 : decode cX10_pushLevel 170 = .ok (.dup, 1) := by decide +kernel
theorem dX10_pushLevel_171 : decode cX10_pushLevel 171 = .ok (.getfield 96, 3) := by decide +kernel
theorem dX10_pushLevel_174 : decode cX10_pushLevel 174 = .ok (.iconst 1, 1) := by decide +kernel
theorem dX10_pushLevel_175 : decode cX10_pushLevel 175 = .ok (.iadd, 1) := by decide +kernel
theorem dX10_pushLevel_176 : decode cX10_pushLevel 176 = .ok (.putfield 96, 3) := by decide +kernel
theorem dX10_pushLevel_179 : decode cX10_pushLevel 179 = .ok (.aload_n 3, 1) := by decide +kernel
theorem dX10_pushLevel_180 : decode cX10_pushLevel 180 = .ok (.areturn, 1) := by decide +kernel
theorem dX6_addPart_0 : decode cX6_addPart 0 = .ok (.iload_n 2, 1) := by decide +kernel
theorem dX6_addPart_1 : decode cX6_addPart 1 = .ok (.ifCond .lt 29, 3) := by decide +kernel
theorem dX6_addPart_4 : decode cX6_addPart 4 = .ok (.iload_n 3, 1) := by decide +kernel
theorem dX6_addPart_5 : decode cX6_addPart 5 = .ok (.ifCond .lt 25, 3) := by decide +kernel
theorem dX6_addPart_8 : decode cX6_addPart 8 = .ok (.iload_n 3, 1) := by decide +kernel
theorem dX6_addPart_9 : decode cX6_addPart 9 = .ok (.aload_n 1, 1) := by decide +kernel
theorem dX6_addPart_10 : decode cX6_addPart 10 = .ok (.arraylength, 1) := by decide +kernel
theorem dX6_addPart_11 : decode cX6_addPart 11 = .ok (.iload_n 2, 1) := by decide +kernel
theorem dX6_addPart_12 : decode cX6_addPart 12 = .ok (.isub, 1) := by decide +kernel
theorem dX6_addPart_13 : decode cX6_addPart 13 = .ok (.if_icmp .gt 17, 3) := by decide +kernel
theorem dX6_addPart_16 : decode cX6_addPart 16 = .ok (.iload_n 3, 1) := by decide +kernel
theorem dX6_addPart_17 : decode cX6_addPart 17 = .ok (.aload_n 0, 1) := by decide +kernel
theorem dX6_addPart_18 : decode cX6_addPart 18 = .ok (.getfield 9, 3) := by decide +kernel
theorem dX6_addPart_21 : decode cX6_addPart 21 = .ok (.arraylength, 1) := by decide +kernel
theorem dX6_addPart_22 : decode cX6_addPart 22 = .ok (.aload_n 0, 1) := by decide +kernel
theorem dX6_addPart_23 : decode cX6_addPart 23 = .ok (.getfield 18, 3) := by decide +kernel
theorem dX6_addPart_26 : decode cX6_addPart 26 = .ok (.isub, 1) := by decide +kernel
theorem dX6_addPart_27 : decode cX6_addPart 27 = .ok (.if_icmp .le 5, 3) := by decide +kernel
theorem dX6_addPart_32 : decode cX6_addPart 32 = .ok (.aload_n 1, 1) := by decide +kernel
theorem dX6_addPart_33 : decode cX6_addPart 33 = .ok (.iload_n 2, 1) := by decide +kernel
theorem dX6_addPart_34 : decode cX6_addPart 34 = .ok (.aload_n 0, 1) := by decide +kernel
theorem dX6_addPart_35 : decode cX6_addPart 35 = .ok (.getfield 9, 3) := by decide +kernel
theorem dX6_addPart_38 : decode cX6_addPart 38 = .ok (.aload_n 0, 1) := by decide +kernel
theorem dX6_addPart_39 : decode cX6_addPart 39 = .ok (.getfield 18, 3) := by decide +kernel
theorem dX6_addPart_42 : decode cX6_addPart 42 = .ok (.iload_n 3, 1) := by decide +kernel
theorem dX6_addPart_43 : decode cX6_addPart 43 = .ok (.invokestatic 25, 3) := by decide +kernel
theorem dX6_addPart_46 : decode cX6_addPart 46 = .ok (.aload_n 0, 1) := by decide +kernel
theorem dX6_addPart_47 : decode cX6_addPart 47 = .ok (.dup, 1) := by decide +kernel
theorem dX6_addPart_48 : decode cX6_addPart 48 = .ok (.getfield 18, 3) := by decide +kernel
theorem dX6_addPart_51 : decode cX6_addPart 51 = .ok (.iload_n 3, 1) := by decide +kernel
theorem dX6_addPart_52 : decode cX6_addPart 52 = .ok (.iadd, 1) := by decide +kernel
theorem dX6_addPart_53 : decode cX6_addPart 53 = .ok (.putfield 18, 3) := by decide +kernel
theorem dX6_addPart_56 : decode cX6_addPart 56 = .ok (.iconst 1, 1) := by decide +kernel
theorem dX6_addPart_57 : decode cX6_addPart 57 = .ok (.ireturn, 1) := by decide +kernel
theorem dX2_beginProcess_0 : decode cX2_beginProcess 0 = .ok (.aload_n 0, 1) := by decide +kernel
theorem dX2_beginProcess_1 : decode cX2_beginProcess 1 = .ok (.invokevirtual 782, 3) := by decide +kernel
theorem dX2_beginProcess_4 : decode cX2_beginProcess 4 = .ok (.astore_n 2, 1) := by decide +kernel
theorem dX2_beginProcess_5 : decode cX2_beginProcess 5 = .ok (.aload_n 2, 1) := by decide +kernel
theorem dX2_beginProcess_6 : decode cX2_beginProcess 6 = .ok (.ifnull 10, 3) := by decide +kernel
theorem dX2_beginProcess_9 : decode cX2_beginProcess 9 = .ok (.aload_n 2, 1) := by decide +kernel
theorem dX2_beginProcess_10 : decode cX2_beginProcess 10 = .ok (.getfield 96, 3) := by decide +kernel
theorem dX2_beginProcess_13 : decode cX2_beginProcess 13 = .ok (.ifnonnull 5, 3) := by decide +kernel
theorem dX2_beginProcess_18 : decode cX2_beginProcess 18 = .ok (.aload_n 2, 1) := by decide +kernel
theorem dX2_beginProcess_19 : decode cX2_beginProcess 19 = .ok (.getfield 96, 3) := by decide +kernel
theorem dX2_beginProcess_22 : decode cX2_beginProcess 22 = .ok (.iconst 2, 1) := by decide +kernel
theorem dX2_beginProcess_23 : decode cX2_beginProcess 23 = .ok (.iconst 0, 1) := by decide +kernel
theorem dX2_beginProcess_24 : decode cX2_beginProcess 24 = .ok (.invokevirtual 789, 3) := by decide +kernel
theorem dX2_beginProcess_27 : decode cX2_beginProcess 27 = .ok (.astore_n 3, 1) := by decide +kernel
theorem dX2_beginProcess_28 : decode cX2_beginProcess 28 = .ok (.aload_n 3, 1) := by decide +kernel
theorem dX2_beginProcess_29 : decode cX2_beginProcess 29 = .ok (.ifnonnull 5, 3) := by decide +kernel
theorem dX2_beginProcess_34 : decode cX2_beginProcess 34 = .ok (.aload_n 3, 1) := by decide +kernel
theorem dX2_beginProcess_35 : decode cX2_beginProcess 35 = .ok (.getfield 847, 3) := by decide +kernel
theorem dX2_beginProcess_38 : decode cX2_beginProcess 38 = .ok (.aload_n 1, 1) := by decide +kernel
theorem dX2_beginProcess_39 : decode cX2_beginProcess 39 = .ok (.getfield 239, 3) := by decide +kernel
theorem dX2_beginProcess_42 : decode cX2_beginProcess 42 = .ok (.iconst 0, 1) := by decide +kernel
theorem dX2_beginProcess_43 : decode cX2_beginProcess 43 = .ok (.aload_n 1, 1) := by decide +kernel
theorem dX2_beginProcess_44 : decode cX2_beginProcess 44 = .ok (.getfield 197, 3) := by decide +kernel
theorem dX2_beginProcess_47 : decode cX2_beginProcess 47 = .ok (.invokevirtual 243, 3) := by decide +kernel
theorem dX2_beginProcess_50 : decode cX2_beginProcess 50 = .ok (.pop, 1) := by decide +kernel
theorem dX2_beginProcess_51 : decode cX2_beginProcess 51 = .ok (.aload_n 3, 1) := by decide +kernel
theorem dX2_beginProcess_52 : decode cX2_beginProcess 52 = .ok (.aload_n 3, 1) := by decide +kernel
theorem dX2_beginProcess_53 : decode cX2_beginProcess 53 = .ok (.getfield 847, 3) := by decide +kernel
theorem dX2_beginProcess_56 : decode cX2_beginProcess 56 = .ok (.putfield 261, 3) := by decide +kernel
theorem dX2_beginProcess_59 : decode cX2_beginProcess 59 = .ok (.aload_n 3, 1) := by decide +kernel
theorem dX2_beginProcess_60 : decode cX2_beginProcess 60 = .ok (.iconst 0, 1) := by decide +kernel
theorem dX2_beginProcess_61 : decode cX2_beginProcess 61 = .ok (.putfield 262, 3) := by decide +kernel
theorem dX2_beginProcess_64 : decode cX2_beginProcess 64 = .ok (.aload_n 2, 1) := by decide +kernel
theorem dX2_beginProcess_65 : decode cX2_beginProcess 65 = .ok (.getfield 96, 3) := by decide +kernel
theorem dX2_beginProcess_68 : decode cX2_beginProcess 68 = .ok (.aload_n 3, 1) := by decide +kernel
theorem dX2_beginProcess_69 : decode cX2_beginProcess 69 = .ok (.getfield 847, 3) := by decide +kernel
theorem dX2_beginProcess_72 : decode cX2_beginProcess 72 = .ok (.putfield 138, 3) := by decide +kernel
theorem dX2_beginProcess_75 : decode cX2_beginProcess 75 = .ok (.aload_n 2, 1) := by decide +kernel
theorem dX2_beginProcess_76 : decode cX2_beginProcess 76 = .ok (.getfield 96, 3) := by decide +kernel
theorem dX2_beginProcess_79 : decode cX2_beginProcess 79 = .ok (.iconst 0, 1) := by decide +kernel
theorem dX2_beginProcess_80 : decode cX2_beginProcess 80 = .ok (.putfield 165, 3) := by decide +kernel
theorem dX2_beginProcess_83 : decode cX2_beginProcess 83 = .ok (.aload_n 2, 1) := by decide +kernel
theorem dX2_beginProcess_84 : decode cX2_beginProcess 84 = .ok (.areturn, 1) := by decide +kernel
theorem dX11_process_0 : decode cX11_process 0 = .ok (.aload_n 0, 1) := by decide +kernel
theorem dX11_process_1 : decode cX11_process 1 = .ok (.getfield 24, 3) := by decide +kernel
theorem dX11_process_4 : decode cX11_process 4 = .ok (.getfield 57, 3) := by decide +kernel
theorem dX11_process_7 : decode cX11_process 7 = .ok (.ifCond .eq 6, 3) := by decide +kernel
theorem dX11_process_13 : decode cX11_process 13 = .ok (.aload_n 0, 1) := by decide +kernel
theorem dX11_process_14 : decode cX11_process 14 = .ok (.getfield 14, 3) := by decide +kernel
theorem dX11_process_17 : decode cX11_process 17 = .ok (.getfield 47, 3) := by decide +kernel
theorem dX11_process_20 : decode cX11_process 20 = .ok (.istore_n 1, 1) := by decide +kernel
theorem dX11_process_21 : decode cX11_process 21 = .ok (.aload_n 0, 1) := by decide +kernel
theorem dX11_process_22 : decode cX11_process 22 = .ok (.getfield 14, 3) := by decide +kernel
theorem dX11_process_25 : decode cX11_process 25 = .ok (.invokevirtual 61, 3) := by decide +kernel
theorem dX11_process_28 : decode cX11_process 28 = .ok (.iload_n 1, 1) := by decide +kernel
theorem dX11_process_29 : decode cX11_process 29 = .ok (.sipush 250, 3) := by decide +kernel
theorem dX11_process_32 : decode cX11_process 32 = .ok (.if_icmp .gt 39, 3) := by decide +kernel
theorem dX11_process_35 : decode cX11_process 35 = .ok (.aload_n 0, 1) := by decide +kernel
theorem dX11_process_36 : decode cX11_process 36 = .ok (.getfield 24, 3) := by decide +kernel
theorem dX11_process_39 : decode cX11_process 39 = .ok (.getfield 75, 3) := by decide +kernel
theorem dX11_process_42 : decode cX11_process 42 = .ok (.aload_n 0, 1) := by decide +kernel
theorem dX11_process_43 : decode cX11_process 43 = .ok (.getfield 14, 3) := by decide +kernel
theorem dX11_process_46 : decode cX11_process 46 = .ok (.getfield 64, 3) := by decide +kernel
theorem dX11_process_49 : decode cX11_process 49 = .ok (.iconst 0, 1) := by decide +kernel
theorem dX11_process_50 : decode cX11_process 50 = .ok (.iload_n 1, 1) := by decide +kernel
theorem dX11_process_51 : decode cX11_process 51 = .ok (.invokevirtual 79, 3) := by decide +kernel
theorem dX11_process_54 : decode cX11_process 54 = .ok (.ifCond .eq 17, 3) := by decide +kernel
theorem dX11_process_57 : decode cX11_process 57 = .ok (.aload_n 0, 1) := by decide +kernel
theorem dX11_process_58 : decode cX11_process 58 = .ok (.getfield 24, 3) := by decide +kernel
theorem dX11_process_61 : decode cX11_process 61 = .ok (.getfield 75, 3) := by decide +kernel
theorem dX11_process_64 : decode cX11_process 64 = .ok (.iconst 1, 1) := by decide +kernel
theorem dX11_process_65 : decode cX11_process 65 = .ok (.invokevirtual 144, 3) := by decide +kernel
theorem dX11_process_68 : decode cX11_process 68 = .ok (.ifCond .ne 6, 3) := by decide +kernel
theorem dX11_process_74 : decode cX11_process 74 = .ok (.aload_n 0, 1) := by decide +kernel
theorem dX11_process_75 : decode cX11_process 75 = .ok (.getfield 44, 3) := by decide +kernel
theorem dX11_process_78 : decode cX11_process 78 = .ok (.invokevirtual 61, 3) := by decide +kernel
theorem dX11_process_81 : decode cX11_process 81 = .ok (.aload_n 0, 1) := by decide +kernel
theorem dX11_process_82 : decode cX11_process 82 = .ok (.getfield 44, 3) := by decide +kernel
theorem dX11_process_85 : decode cX11_process 85 = .ok (.aload_n 0, 1) := by decide +kernel
theorem dX11_process_86 : decode cX11_process 86 = .ok (.getfield 14, 3) := by decide +kernel
theorem dX11_process_89 : decode cX11_process 89 = .ok (.getfield 64, 3) := by decide +kernel
theorem dX11_process_92 : decode cX11_process 92 = .ok (.iconst 0, 1) := by decide +kernel
theorem dX11_process_93 : decode cX11_process 93 = .ok (.iload_n 1, 1) := by decide +kernel
theorem dX11_process_94 : decode cX11_process 94 = .ok (.invokevirtual 117, 3) := by decide +kernel
theorem dX11_process_97 : decode cX11_process 97 = .ok (.pop, 1) := by decide +kernel
theorem dX11_process_98 : decode cX11_process 98 = .ok (.aload_n 0, 1) := by decide +kernel
theorem dX11_process_99 : decode cX11_process 99 = .ok (.getfield 33, 3) := by decide +kernel
theorem dX11_process_102 : decode cX11_process 102 = .ok (.aload_n 0, 1) := by decide +kernel
theorem dX11_process_103 : decode cX11_process 103 = .ok (.getfield 44, 3) := by decide +kernel
theorem dX11_process_106 : decode cX11_process 106 = .ok (.invokevirtual 147, 3) := by decide +kernel
theorem dX11_process_109 : decode cX11_process 109 = .ok (.astore_n 2, 1) := by decide +kernel
theorem dX11_process_110 : decode cX11_process 110 = .ok (.aload_n 2, 1) := by decide +kernel
theorem dX11_process_111 : decode cX11_process 111 = .ok (.ifnull 20, 3) := by decide +kernel
theorem dX11_process_114 : decode cX11_process 114 = .ok (.aload_n 2, 1) := by decide +kernel
theorem dX11_process_115 : decode cX11_process 115 = .ok (.getfield 151, 3) := by decide +kernel
theorem dX11_process_118 : decode cX11_process 118 = .ok (.ifnull 13, 3) := by decide +kernel
theorem dX11_process_121 : decode cX11_process 121 = .ok (.aload_n 2, 1) := by decide +kernel
theorem dX11_process_122 : decode cX11_process 122 = .ok (.getfield 151, 3) := by decide +kernel
theorem dX11_process_125 : decode cX11_process 125 = .ok (.getfield 157, 3) := by decide +kernel
theorem dX11_process_128 : decode cX11_process 128 = .ok (.ifnonnull 6, 3) := by decide +kernel
theorem dX11_process_134 : decode cX11_process 134 = .ok (.aload_n 2, 1) := by decide +kernel
theorem dX11_process_135 : decode cX11_process 135 = .ok (.getfield 151, 3) := by decide +kernel
theorem dX11_process_138 : decode cX11_process 138 = .ok (.getfield 157, 3) := by decide +kernel
theorem dX11_process_141 : decode cX11_process 141 = .ok (.iconst 1, 1) := by decide +kernel
theorem dX11_process_142 : decode cX11_process 142 = .ok (.invokevirtual 144, 3) := by decide +kernel
theorem dX11_process_145 : decode cX11_process 145 = .ok (.pop, 1) := by decide +kernel
theorem dX11_process_146 : decode cX11_process 146 = .ok (.aload_n 2, 1) := by decide +kernel
theorem dX11_process_147 : decode cX11_process 147 = .ok (.getfield 162, 3) := by decide +kernel
theorem dX11_process_150 : decode cX11_process 150 = .ok (.ireturn, 1) := by decide +kernel
set_option maxHeartbeats 8000000 in
set_option maxRecDepth 100000 in
/-- Row.clear of a row of which nothing is told -/
theorem c_Row_clear0 (l : Launch) (D : va_G) (x : Nat → ClassId) (h0 : Nat) (f0 : Nat → Value) (sz : Nat)  : Met l yX6_clear (.code yX6_clear cX6_clear 1 none :: zW) ({ frames := 0, cells := (0), slots := (0), locals := 0 }) (va_Pc [.ref h0] (fun U => U.heap.size = sz ∧ va_P D vwCl [(h0, .inr (6, zf 3 f0))] U.heap ∧ zK x D U ∧ va_D (fun _ => True) [(h0, .inr (6, zf 3 f0))])) (va_Qv (fun u : Nat → Value => match u with | c0 => c0 1 = .int 0 ∧ c0 2 = .int 0) (fun u t => match u with | c0 => zB D vwCl (va_A [(h0, .inr (6, zf 3 f0))] sz) [(h0, .inr (6, zf 3 c0))] t) (va_A [(h0, .inr (6, zf 3 f0))] sz)) (0) (0) (va_A [(h0, .inr (6, zf 3 f0))] sz) := by
  refine Met.ofW (cc := cX6_clear) (maxL := 1) (ret := none) (by decide) rfl ?_
  intro p e s m args below meth c s₁ B hml hv
  obtain ⟨rfl, hsz, hP, hZ, hD0⟩ := hv
  have hK := hZ.1
  have hx := B.exec
  have hb := B.bytes
  have hr := B.returns
  have hts := atoms_spec (ws := .code yX6_clear cX6_clear 1 none :: zW) B.pre
  have hown : s.vm.findClass RX6 = some m.cls := findClass_of_methodNamed B.named
  have hlocks := B.notSynchronized
  subst hsz
  have hD := hD0.self (sz := s.heap.size)
  generalize hAe : va_A [(h0, .inr (6, zf 3 f0))] s.heap.size = A at hD ⊢
  have hA : ∀ q : Nat, s.heap.size ≤ q → A q := fun q h => by rw [← hAe]; exact Or.inr h
  have hS : va_S A s.heap s.heap [] := va_S.rf
  have hP : va_P D vwCl [(h0, .inr (6, zf 3 f0))] s.heap := hP
  have hl := lv_entry ([.ref h0]) (n := 1) (Nat.le_of_ble_eq_true rfl)
  rw [lg_entry_eq]
  generalize (lg_sl ([.ref h0]) ++ List.replicate (1 - (lg_sl ([.ref h0])).length) Slot.unset).toArray = ls at hl ⊢
  have hl : lv_has ls 1 [(0, .ref h0)] := hl
  refine lv_aload_n hx hb dX6_clear_0 rfl (lv_at hl 0 rfl) ?_
  refine lv_iconst (v := 0) hx hb dX6_clear_1 (by decide) ?_
  refine z_put (T := TX6) (N := 3) (ci := 6) hx hb hts (zi_6 _) hown hK hP hD hS 0 rfl rfl 1 (by decide) (hts _ (zm_184 _)) rfl rfl rfl rfl dX6_clear_2 (fun H locs f_1 ek_2 ok_3 hP hD hS => ?_)
  have hP : va_P D vwCl [(h0, .inr (6, zf 3 f_1))] H := hP
  have hD : va_D A [(h0, .inr (6, zf 3 f_1))] := hD
  refine lv_aload_n hx hb dX6_clear_5 rfl (lv_at hl 0 rfl) ?_
  refine lv_iconst (v := 0) hx hb dX6_clear_6 (by decide) ?_
  refine z_put (T := TX6) (N := 3) (ci := 6) hx hb hts (zi_6 _) hown hK hP hD hS 0 rfl rfl 2 (by decide) (hts _ (zm_185 _)) rfl rfl rfl rfl dX6_clear_7 (fun H locs f_4 ek_5 ok_6 hP hD hS => ?_)
  have hP : va_P D vwCl [(h0, .inr (6, zf 3 f_4))] H := hP
  have hD : va_D A [(h0, .inr (6, zf 3 f_4))] := hD
  have hP9 := hP.sub (ws' := [(h0, .inr (6, zf 3 f_4))]) [0] rfl
  have hD9 := hD.sub (ws' := [(h0, .inr (6, zf 3 f_4))]) [0] (by decide) rfl
  exact W.vret hx hb hr (fun t ht hW => ⟨⟨f_4, rfl, ⟨((ok_6 1 (by decide)).trans ek_2), ek_5⟩, ⟨by rw [ht]; exact hP9, hD9⟩⟩, hS.F ht⟩) hS.2.2 dX6_clear_10

set_option maxHeartbeats 8000000 in
set_option maxRecDepth 100000 in
/-- Node.begin(0, 0) -/
theorem c_Node_begin (l : Launch) (D : va_G) (x : Nat → ClassId) (h0 : Nat) (f0 : Nat → Value) (sz : Nat)  : Met l yX3_begin (.code yX3_begin cX3_begin 4 none :: zW) ({ frames := 0, cells := (0), slots := (0), locals := 0 }) (va_Pc [.ref h0, .int 0, .long 0] (fun U => U.heap.size = sz ∧ va_P D vwCl [(h0, .inr (3, zf 9 f0))] U.heap ∧ zK x D U ∧ va_D (fun _ => True) [(h0, .inr (3, zf 9 f0))])) (va_Qv (fun u : Nat → Value => match u with | c0 => True) (fun u t => match u with | c0 => zB D vwCl (va_A [(h0, .inr (3, zf 9 f0))] sz) [(h0, .inr (3, zf 9 c0))] t) (va_A [(h0, .inr (3, zf 9 f0))] sz)) (0) (0) (va_A [(h0, .inr (3, zf 9 f0))] sz) := by
  refine Met.ofW (cc := cX3_begin) (maxL := 4) (ret := none) (by decide) rfl ?_
  intro p e s m args below meth c s₁ B hml hv
  obtain ⟨rfl, hsz, hP, hZ, hD0⟩ := hv
  have hK := hZ.1
  have hx := B.exec
  have hb := B.bytes
  have hr := B.returns
  have hts := atoms_spec (ws := .code yX3_begin cX3_begin 4 none :: zW) B.pre
  have hown : s.vm.findClass RX3 = some m.cls := findClass_of_methodNamed B.named
  have hlocks := B.notSynchronized
  subst hsz
  have hD := hD0.self (sz := s.heap.size)
  generalize hAe : va_A [(h0, .inr (3, zf 9 f0))] s.heap.size = A at hD ⊢
  have hA : ∀ q : Nat, s.heap.size ≤ q → A q := fun q h => by rw [← hAe]; exact Or.inr h
  have hS : va_S A s.heap s.heap [] := va_S.rf
  have hP : va_P D vwCl [(h0, .inr (3, zf 9 f0))] s.heap := hP
  have hl := lv_entry ([.ref h0, .int 0, .long 0]) (n := 4) (Nat.le_of_ble_eq_true rfl)
  rw [lg_entry_eq]
  generalize (lg_sl ([.ref h0, .int 0, .long 0]) ++ List.replicate (4 - (lg_sl ([.ref h0, .int 0, .long 0])).length) Slot.unset).toArray = ls at hl ⊢
  have hl : lv_has ls 4 [(0, .ref h0), (1, .int 0), (2, .long 0)] := hl
  refine lv_aload_n hx hb dX3_begin_0 rfl (lv_at hl 0 rfl) ?_
  refine lv_iload_n hx hb dX3_begin_1 rfl (lv_at hl 1 rfl) ?_
  refine z_put (T := TX3) (N := 9) (ci := 3) hx hb hts (zi_3 _) hown hK hP hD hS 0 rfl rfl 4 (by decide) (hts _ (zm_341 _)) rfl rfl rfl rfl dX3_begin_2 (fun H locs f_1 ek_2 ok_3 hP hD hS => ?_)
  have hP : va_P D vwCl [(h0, .inr (3, zf 9 f_1))] H := hP
  have hD : va_D A [(h0, .inr (3, zf 9 f_1))] := hD
  refine lv_aload_n hx hb dX3_begin_5 rfl (lv_at hl 0 rfl) ?_
  refine lv_lload_n hx hb dX3_begin_6 rfl (lv_at hl 2 rfl) ?_
  refine z_put (T := TX3) (N := 9) (ci := 3) hx hb hts (zi_3 _) hown hK hP hD hS 0 rfl rfl 3 (by decide) (hts _ (zm_342 _)) rfl rfl rfl rfl dX3_begin_7 (fun H locs f_4 ek_5 ok_6 hP hD hS => ?_)
  have hP : va_P D vwCl [(h0, .inr (3, zf 9 f_4))] H := hP
  have hD : va_D A [(h0, .inr (3, zf 9 f_4))] := hD
  refine lv_aload_n hx hb dX3_begin_10 rfl (lv_at hl 0 rfl) ?_
  refine lv_iconst (v := 0) hx hb dX3_begin_11 (by decide) ?_
  refine z_put (T := TX3) (N := 9) (ci := 3) hx hb hts (zi_3 _) hown hK hP hD hS 0 rfl rfl 1 (by decide) (hts _ (zm_343 _)) rfl rfl rfl rfl dX3_begin_12 (fun H locs f_7 ek_8 ok_9 hP hD hS => ?_)
  have hP : va_P D vwCl [(h0, .inr (3, zf 9 f_7))] H := hP
  have hD : va_D A [(h0, .inr (3, zf 9 f_7))] := hD
  refine lv_aload_n hx hb dX3_begin_15 rfl (lv_at hl 0 rfl) ?_
  refine lv_iconst (v := 0) hx hb dX3_begin_16 (by decide) ?_
  refine z_put (T := TX3) (N := 9) (ci := 3) hx hb hts (zi_3 _) hown hK hP hD hS 0 rfl rfl 2 (by decide) (hts _ (zm_344 _)) rfl rfl rfl rfl dX3_begin_17 (fun H locs f_10 ek_11 ok_12 hP hD hS => ?_)
  have hP : va_P D vwCl [(h0, .inr (3, zf 9 f_10))] H := hP
  have hD : va_D A [(h0, .inr (3, zf 9 f_10))] := hD
  refine lv_aload_n hx hb dX3_begin_20 rfl (lv_at hl 0 rfl) ?_
  refine lv_iconst (v := 0) hx hb dX3_begin_21 (by decide) ?_
  refine z_put (T := TX3) (N := 9) (ci := 3) hx hb hts (zi_3 _) hown hK hP hD hS 0 rfl rfl 5 (by decide) (hts _ (zm_345 _)) rfl rfl rfl rfl dX3_begin_22 (fun H locs f_13 ek_14 ok_15 hP hD hS => ?_)
  have hP : va_P D vwCl [(h0, .inr (3, zf 9 f_13))] H := hP
  have hD : va_D A [(h0, .inr (3, zf 9 f_13))] := hD
  refine lv_aload_n hx hb dX3_begin_25 rfl (lv_at hl 0 rfl) ?_
  refine lv_iconst (v := 0) hx hb dX3_begin_26 (by decide) ?_
  refine z_put (T := TX3) (N := 9) (ci := 3) hx hb hts (zi_3 _) hown hK hP hD hS 0 rfl rfl 6 (by decide) (hts _ (zm_346 _)) rfl rfl rfl rfl dX3_begin_27 (fun H locs f_16 ek_17 ok_18 hP hD hS => ?_)
  have hP : va_P D vwCl [(h0, .inr (3, zf 9 f_16))] H := hP
  have hD : va_D A [(h0, .inr (3, zf 9 f_16))] := hD
  refine lv_aload_n hx hb dX3_begin_30 rfl (lv_at hl 0 rfl) ?_
  refine lv_iconst (v := 0) hx hb dX3_begin_31 (by decide) ?_
  refine z_put (T := TX3) (N := 9) (ci := 3) hx hb hts (zi_3 _) hown hK hP hD hS 0 rfl rfl 7 (by decide) (hts _ (zm_347 _)) rfl rfl (by decide) rfl dX3_begin_32 (fun H locs f_19 ek_20 ok_21 hP hD hS => ?_)
  have hP : va_P D vwCl [(h0, .inr (3, zf 9 f_19))] H := hP
  have hD : va_D A [(h0, .inr (3, zf 9 f_19))] := hD
  refine lv_aload_n hx hb dX3_begin_35 rfl (lv_at hl 0 rfl) ?_
  refine lv_iconst (v := 0) hx hb dX3_begin_36 (by decide) ?_
  refine z_put (T := TX3) (N := 9) (ci := 3) hx hb hts (zi_3 _) hown hK hP hD hS 0 rfl rfl 8 (by decide) (hts _ (zm_348 _)) rfl rfl (by decide) rfl dX3_begin_37 (fun H locs f_22 ek_23 ok_24 hP hD hS => ?_)
  have hP : va_P D vwCl [(h0, .inr (3, zf 9 f_22))] H := hP
  have hD : va_D A [(h0, .inr (3, zf 9 f_22))] := hD
  have hP9 := hP.sub (ws' := [(h0, .inr (3, zf 9 f_22))]) [0] rfl
  have hD9 := hD.sub (ws' := [(h0, .inr (3, zf 9 f_22))]) [0] (by decide) rfl
  exact W.vret hx hb hr (fun t ht hW => ⟨⟨f_22, rfl, trivial, ⟨by rw [ht]; exact hP9, hD9⟩⟩, hS.F ht⟩) hS.2.2 dX3_begin_40

set_option maxHeartbeats 8000000 in
set_option maxRecDepth 100000 in
/-- Scope.begin -/
theorem c_Scope_begin (l : Launch) (D : va_G) (x : Nat → ClassId) (h0 : Nat) (f0 : Nat → Value) (lg : Nat) (f1 : Nat → Value) (sz : Nat) (h0_12 : f0 12 = .ref lg) : Met l yX7_begin (.code yX7_begin cX7_begin 1 none :: zW) ({ frames := 1, cells := (0), slots := (0), locals := 20 }) (va_Pc [.ref h0] (fun U => U.heap.size = sz ∧ va_P D vwCl [(h0, .inr (7, zf 20 f0)), (lg, .inr (6, zf 3 f1))] U.heap ∧ zK x D U ∧ va_D (fun _ => True) [(h0, .inr (7, zf 20 f0)), (lg, .inr (6, zf 3 f1))])) (va_Qv (fun u : (Nat → Value) × (Nat → Value) => match u with | (c0, c1) => c0 5 = .int 0) (fun u t => match u with | (c0, c1) => zB D vwCl (va_A [(h0, .inr (7, zf 20 f0)), (lg, .inr (6, zf 3 f1))] sz) [(h0, .inr (7, zf 20 c0)), (lg, .inr (6, zf 3 c1))] t) (va_A [(h0, .inr (7, zf 20 f0)), (lg, .inr (6, zf 3 f1))] sz)) (0) (0) (va_A [(h0, .inr (7, zf 20 f0)), (lg, .inr (6, zf 3 f1))] sz) := by
  refine Met.ofW (cc := cX7_begin) (maxL := 1) (ret := none) (by decide) rfl ?_
  intro p e s m args below meth c s₁ B hml hv
  obtain ⟨rfl, hsz, hP, hZ, hD0⟩ := hv
  have hK := hZ.1
  have hx := B.exec
  have hb := B.bytes
  have hr := B.returns
  have hts := atoms_spec (ws := .code yX7_begin cX7_begin 1 none :: zW) B.pre
  have hown : s.vm.findClass RX7 = some m.cls := findClass_of_methodNamed B.named
  have hlocks := B.notSynchronized
  subst hsz
  have hD := hD0.self (sz := s.heap.size)
  generalize hAe : va_A [(h0, .inr (7, zf 20 f0)), (lg, .inr (6, zf 3 f1))] s.heap.size = A at hD ⊢
  have hA : ∀ q : Nat, s.heap.size ≤ q → A q := fun q h => by rw [← hAe]; exact Or.inr h
  have hS : va_S A s.heap s.heap [] := va_S.rf
  have hP : va_P D vwCl [(h0, .inr (7, zf 20 f0)), (lg, .inr (6, zf 3 f1))] s.heap := hP
  have hl := lv_entry ([.ref h0]) (n := 1) (Nat.le_of_ble_eq_true rfl)
  rw [lg_entry_eq]
  generalize (lg_sl ([.ref h0]) ++ List.replicate (1 - (lg_sl ([.ref h0])).length) Slot.unset).toArray = ls at hl ⊢
  have hl : lv_has ls 1 [(0, .ref h0)] := hl
  refine lv_aload_n hx hb dX7_begin_0 rfl (lv_at hl 0 rfl) ?_
  refine lv_iconst (v := 0) hx hb dX7_begin_1 (by decide) ?_
  refine z_put (T := TX7) (N := 20) (ci := 7) hx hb hts (zi_7 _) hown hK hP hD hS 0 rfl rfl 2 (by decide) (hts _ (zm_329 _)) rfl rfl rfl rfl dX7_begin_2 (fun H locs f_1 ek_2 ok_3 hP hD hS => ?_)
  have hP : va_P D vwCl [(h0, .inr (7, zf 20 f_1)), (lg, .inr (6, zf 3 f1))] H := hP
  have hD : va_D A [(h0, .inr (7, zf 20 f_1)), (lg, .inr (6, zf 3 f1))] := hD
  refine lv_aload_n hx hb dX7_begin_5 rfl (lv_at hl 0 rfl) ?_
  refine lv_iconst (v := 0) hx hb dX7_begin_6 (by decide) ?_
  refine z_put (T := TX7) (N := 20) (ci := 7) hx hb hts (zi_7 _) hown hK hP hD hS 0 rfl rfl 5 (by decide) (hts _ (zm_330 _)) rfl rfl rfl rfl dX7_begin_7 (fun H locs f_4 ek_5 ok_6 hP hD hS => ?_)
  have hP : va_P D vwCl [(h0, .inr (7, zf 20 f_4)), (lg, .inr (6, zf 3 f1))] H := hP
  have hD : va_D A [(h0, .inr (7, zf 20 f_4)), (lg, .inr (6, zf 3 f1))] := hD
  refine lv_aload_n hx hb dX7_begin_10 rfl (lv_at hl 0 rfl) ?_
  refine lv_iconst (v := 0) hx hb dX7_begin_11 (by decide) ?_
  refine z_put (T := TX7) (N := 20) (ci := 7) hx hb hts (zi_7 _) hown hK hP hD hS 0 rfl rfl 8 (by decide) (hts _ (zm_331 _)) rfl rfl rfl rfl dX7_begin_12 (fun H locs f_7 ek_8 ok_9 hP hD hS => ?_)
  have hP : va_P D vwCl [(h0, .inr (7, zf 20 f_7)), (lg, .inr (6, zf 3 f1))] H := hP
  have hD : va_D A [(h0, .inr (7, zf 20 f_7)), (lg, .inr (6, zf 3 f1))] := hD
  refine lv_aload_n hx hb dX7_begin_15 rfl (lv_at hl 0 rfl) ?_
  refine lv_iconst (v := 0) hx hb dX7_begin_16 (by decide) ?_
  refine z_put (T := TX7) (N := 20) (ci := 7) hx hb hts (zi_7 _) hown hK hP hD hS 0 rfl rfl 11 (by decide) (hts _ (zm_332 _)) rfl rfl rfl rfl dX7_begin_17 (fun H locs f_10 ek_11 ok_12 hP hD hS => ?_)
  have hP : va_P D vwCl [(h0, .inr (7, zf 20 f_10)), (lg, .inr (6, zf 3 f1))] H := hP
  have hD : va_D A [(h0, .inr (7, zf 20 f_10)), (lg, .inr (6, zf 3 f1))] := hD
  refine lv_aload_n hx hb dX7_begin_20 rfl (lv_at hl 0 rfl) ?_
  refine z_get (T := TX7) (N := 20) (ci := 7) hx hb hts (zi_7 _) hown hK hP 0 rfl rfl 12 (by decide) (hts _ (zm_90 _)) rfl ((ok_12 12 (by decide)).trans ((ok_9 12 (by decide)).trans ((ok_6 12 (by decide)).trans ((ok_3 12 (by decide)).trans h0_12)))) dX7_begin_21 ?_
  have hPc := hP.sub (ws' := [(lg, .inr (6, zf 3 f1))]) [1] rfl
  have hDc := hD.sub (ws' := [(lg, .inr (6, zf 3 f1))]) [1] (by decide) rfl
  have hFc := va_free (wc := [(lg, .inr (6, zf 3 f1))]) hD hS hA [1] rfl
  have h_14 : 0 + 0 ≤ 0 ∧ 0 + 0 ≤ 0 := by omega
  refine va_callv (va_runVN (As := []) (rest := []) ⟨hx, hb, hml, hown, hts⟩ (c_Row_clear0 l D x lg f1 H.size) ⟨va_cnB 0 hts (zgood (zm_181 _) rfl) rfl rfl rfl (hZ.2.1 _ zn_141) (hts _ (zm_7 _)) ⟨by decide, by decide, by decide +kernel⟩ ⟨Nat.le_of_ble_eq_true rfl, Nat.le_of_ble_eq_true rfl⟩, hts _ (zm_182 _), hts _ (zm_183 _)⟩ ⟨fun a U g mk q => by obtain ⟨q0, q1, qP, qK, qD⟩ := q; exact ⟨q0, q1, qP, ZK.calling (u := U) zN_ok rfl qK, qD⟩, va_recv hK hPc (ci := 6) (q0 := 0) rfl rfl, fun U hU hW => ⟨rfl, by rw [hU], by rw [hU]; exact hPc, ZK.warm zN_ok hW hZ, hDc.weaken (fun _ _ _ _ => trivial)⟩⟩ rfl rfl hl.1 rfl (lv_room (Nat.le_of_ble_eq_true rfl)) dX7_begin_24 h_14) hS (fun q _ h => hFc q h) hFc (fun c0_13 t H1 locs ht hvm hw_13 hB hz1 hk1 hS => ?_)
  obtain ⟨hP1, hD1⟩ := hB
  rw [ht] at hP1
  try dsimp only at hw_13
  obtain ⟨hP, hD⟩ := va_join (wr := [(h0, .inr (7, zf 20 f_10))]) (w1 := [(lg, .inr (6, zf 3 c0_13))]) hP hD [1] [0] rfl rfl (by decide) (by decide) hk1 hFc hP1 hD1
  generalize H1 = H at hP hS ⊢
  have hP : va_P D vwCl [(h0, .inr (7, zf 20 f_10)), (lg, .inr (6, zf 3 c0_13))] H := hP
  have hD : va_D A [(h0, .inr (7, zf 20 f_10)), (lg, .inr (6, zf 3 c0_13))] := hD
  refine W.widen (k := 0) (n := 0) (by omega) (by omega) ?_
  refine lv_aload_n hx hb dX7_begin_27 rfl (lv_at hl 0 rfl) ?_
  refine lv_iconst (v := 0) hx hb dX7_begin_28 (by decide) ?_
  refine z_put (T := TX7) (N := 20) (ci := 7) hx hb hts (zi_7 _) hown hK hP hD hS 0 rfl rfl 16 (by decide) (hts _ (zm_333 _)) rfl rfl rfl rfl dX7_begin_29 (fun H locs f_15 ek_16 ok_17 hP hD hS => ?_)
  have hP : va_P D vwCl [(h0, .inr (7, zf 20 f_15)), (lg, .inr (6, zf 3 c0_13))] H := hP
  have hD : va_D A [(h0, .inr (7, zf 20 f_15)), (lg, .inr (6, zf 3 c0_13))] := hD
  refine lv_aload_n hx hb dX7_begin_32 rfl (lv_at hl 0 rfl) ?_
  refine lv_iconst (v := (-1)) hx hb dX7_begin_33 (by decide) ?_
  refine z_put (T := TX7) (N := 20) (ci := 7) hx hb hts (zi_7 _) hown hK hP hD hS 0 rfl rfl 15 (by decide) (hts _ (zm_334 _)) rfl rfl rfl rfl dX7_begin_34 (fun H locs f_18 ek_19 ok_20 hP hD hS => ?_)
  have hP : va_P D vwCl [(h0, .inr (7, zf 20 f_18)), (lg, .inr (6, zf 3 c0_13))] H := hP
  have hD : va_D A [(h0, .inr (7, zf 20 f_18)), (lg, .inr (6, zf 3 c0_13))] := hD
  refine lv_aload_n hx hb dX7_begin_37 rfl (lv_at hl 0 rfl) ?_
  refine lv_iconst (v := 0) hx hb dX7_begin_38 (by decide) ?_
  refine z_put (T := TX7) (N := 20) (ci := 7) hx hb hts (zi_7 _) hown hK hP hD hS 0 rfl rfl 14 (by decide) (hts _ (zm_335 _)) rfl rfl rfl rfl dX7_begin_39 (fun H locs f_21 ek_22 ok_23 hP hD hS => ?_)
  have hP : va_P D vwCl [(h0, .inr (7, zf 20 f_21)), (lg, .inr (6, zf 3 c0_13))] H := hP
  have hD : va_D A [(h0, .inr (7, zf 20 f_21)), (lg, .inr (6, zf 3 c0_13))] := hD
  refine lv_aload_n hx hb dX7_begin_42 rfl (lv_at hl 0 rfl) ?_
  refine lv_iconst (v := 0) hx hb dX7_begin_43 (by decide) ?_
  refine z_put (T := TX7) (N := 20) (ci := 7) hx hb hts (zi_7 _) hown hK hP hD hS 0 rfl rfl 13 (by decide) (hts _ (zm_336 _)) rfl rfl (by decide) rfl dX7_begin_44 (fun H locs f_24 ek_25 ok_26 hP hD hS => ?_)
  have hP : va_P D vwCl [(h0, .inr (7, zf 20 f_24)), (lg, .inr (6, zf 3 c0_13))] H := hP
  have hD : va_D A [(h0, .inr (7, zf 20 f_24)), (lg, .inr (6, zf 3 c0_13))] := hD
  refine lv_aload_n hx hb dX7_begin_47 rfl (lv_at hl 0 rfl) ?_
  refine lv_null hx hb dX7_begin_48 ?_
  refine z_put (T := TX7) (N := 20) (ci := 7) hx hb hts (zi_7 _) hown hK hP hD hS 0 rfl rfl 17 (by decide) (hts _ (zm_337 _)) rfl rfl rfl rfl dX7_begin_49 (fun H locs f_27 ek_28 ok_29 hP hD hS => ?_)
  have hP : va_P D vwCl [(h0, .inr (7, zf 20 f_27)), (lg, .inr (6, zf 3 c0_13))] H := hP
  have hD : va_D A [(h0, .inr (7, zf 20 f_27)), (lg, .inr (6, zf 3 c0_13))] := hD
  have e_30 : f_27 5 = .int 0 := ((ok_29 5 (by decide)).trans ((ok_26 5 (by decide)).trans ((ok_23 5 (by decide)).trans ((ok_20 5 (by decide)).trans ((ok_17 5 (by decide)).trans ((ok_12 5 (by decide)).trans ((ok_9 5 (by decide)).trans ek_5)))))))
  have hP9 := hP.sub (ws' := [(h0, .inr (7, zf 20 f_27)), (lg, .inr (6, zf 3 c0_13))]) [0, 1] rfl
  have hD9 := hD.sub (ws' := [(h0, .inr (7, zf 20 f_27)), (lg, .inr (6, zf 3 c0_13))]) [0, 1] (by decide) rfl
  exact W.vret hx hb hr (fun t ht hW => ⟨⟨(f_27, c0_13), rfl, e_30, ⟨by rw [ht]; exact hP9, hD9⟩⟩, hS.F ht⟩) hS.2.2 dX7_begin_52

set_option maxHeartbeats 8000000 in
set_option maxRecDepth 100000 in
/-- Work.begin -/
theorem c_Work_begin (l : Launch) (D : va_G) (x : Nat → ClassId) (h0 : Nat) (f0 : Nat → Value) (na : Nat) (f1 : Nat → Value) (sc : Nat) (f2 : Nat → Value) (lg : Nat) (f3 : Nat → Value) (lv : Nat) (sz : Nat) (h0_17 : f0 17 = .ref na) (h0_18 : f0 18 = .ref sc) (h0_4 : f0 4 = .ref lv) (h0_13 : f0 13 = .null) (h0_14 : f0 14 = .int 0) (h2_12 : f2 12 = .ref lg) : Met l yX10_begin (.code yX10_begin cX10_begin 1 none :: zW) ({ frames := 2, cells := (0), slots := (0), locals := 40 }) (va_Pc [.ref h0] (fun U => U.heap.size = sz ∧ va_P D vwCl [(h0, .inr (10, zf 20 f0)), (na, .inr (3, zf 9 f1)), (sc, .inr (7, zf 20 f2)), (lg, .inr (6, zf 3 f3))] U.heap ∧ zK x D U ∧ va_D (fun _ => True) [(h0, .inr (10, zf 20 f0)), (na, .inr (3, zf 9 f1)), (sc, .inr (7, zf 20 f2)), (lg, .inr (6, zf 3 f3))])) (va_Qv (fun u : (Nat → Value) × (Nat → Value) × (Nat → Value) × (Nat → Value) => match u with | (c0, c1, c2, c3) => c0 1 = .int 0 ∧ c0 3 = .int 0 ∧ c0 5 = .int 0 ∧ c0 7 = .int 0 ∧ c0 12 = .int 0 ∧ c0 16 = .int 0 ∧ c0 17 = .ref na ∧ c0 18 = .ref sc ∧ c0 4 = .ref lv ∧ c0 13 = .null ∧ c0 14 = .int 0 ∧ c2 5 = .int 0) (fun u t => match u with | (c0, c1, c2, c3) => zB D vwCl (va_A [(h0, .inr (10, zf 20 f0)), (na, .inr (3, zf 9 f1)), (sc, .inr (7, zf 20 f2)), (lg, .inr (6, zf 3 f3))] sz) [(h0, .inr (10, zf 20 c0)), (na, .inr (3, zf 9 c1)), (sc, .inr (7, zf 20 c2)), (lg, .inr (6, zf 3 c3))] t) (va_A [(h0, .inr (10, zf 20 f0)), (na, .inr (3, zf 9 f1)), (sc, .inr (7, zf 20 f2)), (lg, .inr (6, zf 3 f3))] sz)) (0) (0) (va_A [(h0, .inr (10, zf 20 f0)), (na, .inr (3, zf 9 f1)), (sc, .inr (7, zf 20 f2)), (lg, .inr (6, zf 3 f3))] sz) := by
  refine Met.ofW (cc := cX10_begin) (maxL := 1) (ret := none) (by decide) rfl ?_
  intro p e s m args below meth c s₁ B hml hv
  obtain ⟨rfl, hsz, hP, hZ, hD0⟩ := hv
  have hK := hZ.1
  have hx := B.exec
  have hb := B.bytes
  have hr := B.returns
  have hts := atoms_spec (ws := .code yX10_begin cX10_begin 1 none :: zW) B.pre
  have hown : s.vm.findClass RX10 = some m.cls := findClass_of_methodNamed B.named
  have hlocks := B.notSynchronized
  subst hsz
  have hD := hD0.self (sz := s.heap.size)
  generalize hAe : va_A [(h0, .inr (10, zf 20 f0)), (na, .inr (3, zf 9 f1)), (sc, .inr (7, zf 20 f2)), (lg, .inr (6, zf 3 f3))] s.heap.size = A at hD ⊢
  have hA : ∀ q : Nat, s.heap.size ≤ q → A q := fun q h => by rw [← hAe]; exact Or.inr h
  have hS : va_S A s.heap s.heap [] := va_S.rf
  have hP : va_P D vwCl [(h0, .inr (10, zf 20 f0)), (na, .inr (3, zf 9 f1)), (sc, .inr (7, zf 20 f2)), (lg, .inr (6, zf 3 f3))] s.heap := hP
  have hl := lv_entry ([.ref h0]) (n := 1) (Nat.le_of_ble_eq_true rfl)
  rw [lg_entry_eq]
  generalize (lg_sl ([.ref h0]) ++ List.replicate (1 - (lg_sl ([.ref h0])).length) Slot.unset).toArray = ls at hl ⊢
  have hl : lv_has ls 1 [(0, .ref h0)] := hl
  refine lv_aload_n hx hb dX10_begin_0 rfl (lv_at hl 0 rfl) ?_
  refine lv_iconst (v := 0) hx hb dX10_begin_1 (by decide) ?_
  refine z_put (T := TX10) (N := 20) (ci := 10) hx hb hts (zi_10 _) hown hK hP hD hS 0 rfl rfl 1 (by decide) (hts _ (zm_320 _)) rfl rfl rfl rfl dX10_begin_2 (fun H locs f_1 ek_2 ok_3 hP hD hS => ?_)
  have hP : va_P D vwCl [(h0, .inr (10, zf 20 f_1)), (na, .inr (3, zf 9 f1)), (sc, .inr (7, zf 20 f2)), (lg, .inr (6, zf 3 f3))] H := hP
  have hD : va_D A [(h0, .inr (10, zf 20 f_1)), (na, .inr (3, zf 9 f1)), (sc, .inr (7, zf 20 f2)), (lg, .inr (6, zf 3 f3))] := hD
  refine lv_aload_n hx hb dX10_begin_5 rfl (lv_at hl 0 rfl) ?_
  refine lv_iconst (v := 0) hx hb dX10_begin_6 (by decide) ?_
  refine z_put (T := TX10) (N := 20) (ci := 10) hx hb hts (zi_10 _) hown hK hP hD hS 0 rfl rfl 3 (by decide) (hts _ (zm_321 _)) rfl rfl rfl rfl dX10_begin_7 (fun H locs f_4 ek_5 ok_6 hP hD hS => ?_)
  have hP : va_P D vwCl [(h0, .inr (10, zf 20 f_4)), (na, .inr (3, zf 9 f1)), (sc, .inr (7, zf 20 f2)), (lg, .inr (6, zf 3 f3))] H := hP
  have hD : va_D A [(h0, .inr (10, zf 20 f_4)), (na, .inr (3, zf 9 f1)), (sc, .inr (7, zf 20 f2)), (lg, .inr (6, zf 3 f3))] := hD
  refine lv_aload_n hx hb dX10_begin_10 rfl (lv_at hl 0 rfl) ?_
  refine lv_iconst (v := 0) hx hb dX10_begin_11 (by decide) ?_
  refine z_put (T := TX10) (N := 20) (ci := 10) hx hb hts (zi_10 _) hown hK hP hD hS 0 rfl rfl 5 (by decide) (hts _ (zm_322 _)) rfl rfl rfl rfl dX10_begin_12 (fun H locs f_7 ek_8 ok_9 hP hD hS => ?_)
  have hP : va_P D vwCl [(h0, .inr (10, zf 20 f_7)), (na, .inr (3, zf 9 f1)), (sc, .inr (7, zf 20 f2)), (lg, .inr (6, zf 3 f3))] H := hP
  have hD : va_D A [(h0, .inr (10, zf 20 f_7)), (na, .inr (3, zf 9 f1)), (sc, .inr (7, zf 20 f2)), (lg, .inr (6, zf 3 f3))] := hD
  refine lv_aload_n hx hb dX10_begin_15 rfl (lv_at hl 0 rfl) ?_
  refine lv_iconst (v := 0) hx hb dX10_begin_16 (by decide) ?_
  refine z_put (T := TX10) (N := 20) (ci := 10) hx hb hts (zi_10 _) hown hK hP hD hS 0 rfl rfl 7 (by decide) (hts _ (zm_323 _)) rfl rfl rfl rfl dX10_begin_17 (fun H locs f_10 ek_11 ok_12 hP hD hS => ?_)
  have hP : va_P D vwCl [(h0, .inr (10, zf 20 f_10)), (na, .inr (3, zf 9 f1)), (sc, .inr (7, zf 20 f2)), (lg, .inr (6, zf 3 f3))] H := hP
  have hD : va_D A [(h0, .inr (10, zf 20 f_10)), (na, .inr (3, zf 9 f1)), (sc, .inr (7, zf 20 f2)), (lg, .inr (6, zf 3 f3))] := hD
  refine lv_aload_n hx hb dX10_begin_20 rfl (lv_at hl 0 rfl) ?_
  refine lv_iconst (v := 0) hx hb dX10_begin_21 (by decide) ?_
  refine z_put (T := TX10) (N := 20) (ci := 10) hx hb hts (zi_10 _) hown hK hP hD hS 0 rfl rfl 12 (by decide) (hts _ (zm_324 _)) rfl rfl rfl rfl dX10_begin_22 (fun H locs f_13 ek_14 ok_15 hP hD hS => ?_)
  have hP : va_P D vwCl [(h0, .inr (10, zf 20 f_13)), (na, .inr (3, zf 9 f1)), (sc, .inr (7, zf 20 f2)), (lg, .inr (6, zf 3 f3))] H := hP
  have hD : va_D A [(h0, .inr (10, zf 20 f_13)), (na, .inr (3, zf 9 f1)), (sc, .inr (7, zf 20 f2)), (lg, .inr (6, zf 3 f3))] := hD
  refine lv_aload_n hx hb dX10_begin_25 rfl (lv_at hl 0 rfl) ?_
  refine lv_iconst (v := 0) hx hb dX10_begin_26 (by decide) ?_
  refine z_put (T := TX10) (N := 20) (ci := 10) hx hb hts (zi_10 _) hown hK hP hD hS 0 rfl rfl 16 (by decide) (hts _ (zm_325 _)) rfl rfl rfl rfl dX10_begin_27 (fun H locs f_16 ek_17 ok_18 hP hD hS => ?_)
  have hP : va_P D vwCl [(h0, .inr (10, zf 20 f_16)), (na, .inr (3, zf 9 f1)), (sc, .inr (7, zf 20 f2)), (lg, .inr (6, zf 3 f3))] H := hP
  have hD : va_D A [(h0, .inr (10, zf 20 f_16)), (na, .inr (3, zf 9 f1)), (sc, .inr (7, zf 20 f2)), (lg, .inr (6, zf 3 f3))] := hD
  refine lv_aload_n hx hb dX10_begin_30 rfl (lv_at hl 0 rfl) ?_
  have e_19 : f_16 17 = .ref na := ((ok_18 17 (by decide)).trans ((ok_15 17 (by decide)).trans ((ok_12 17 (by decide)).trans ((ok_9 17 (by decide)).trans ((ok_6 17 (by decide)).trans ((ok_3 17 (by decide)).trans h0_17))))))
  refine z_get (T := TX10) (N := 20) (ci := 10) hx hb hts (zi_10 _) hown hK hP 0 rfl rfl 17 (by decide) (hts _ (zm_105 _)) rfl e_19 dX10_begin_31 ?_
  refine lv_iconst (v := 0) hx hb dX10_begin_34 (by decide) ?_
  refine lv_lconst (v := 0) hx hb dX10_begin_35 (by decide) ?_
  have hPc := hP.sub (ws' := [(na, .inr (3, zf 9 f1))]) [1] rfl
  have hDc := hD.sub (ws' := [(na, .inr (3, zf 9 f1))]) [1] (by decide) rfl
  have hFc := va_free (wc := [(na, .inr (3, zf 9 f1))]) hD hS hA [1] rfl
  have h_21 : 0 + 0 ≤ 0 ∧ 0 + 0 ≤ 0 := by omega
  refine va_callv (va_runVN (As := [.int 0, .long 0]) (rest := []) ⟨hx, hb, hml, hown, hts⟩ (c_Node_begin l D x na f1 H.size) ⟨va_cnB 2 hts (zgood (zm_338 _) rfl) rfl rfl rfl (hZ.2.1 _ zn_139) (hts _ (zm_17 _)) ⟨by decide, by decide, by decide +kernel⟩ ⟨Nat.le_of_ble_eq_true rfl, Nat.le_of_ble_eq_true rfl⟩, hts _ (zm_339 _), hts _ (zm_340 _)⟩ ⟨fun a U g mk q => by obtain ⟨q0, q1, qP, qK, qD⟩ := q; exact ⟨q0, q1, qP, ZK.calling (u := U) zN_ok rfl qK, qD⟩, va_recv hK hPc (ci := 3) (q0 := 0) rfl rfl, fun U hU hW => ⟨rfl, by rw [hU], by rw [hU]; exact hPc, ZK.warm zN_ok hW hZ, hDc.weaken (fun _ _ _ _ => trivial)⟩⟩ rfl rfl hl.1 rfl (lv_room (Nat.le_of_ble_eq_true rfl)) dX10_begin_36 h_21) hS (fun q _ h => hFc q h) hFc (fun c0_20 t H1 locs ht hvm hw_20 hB hz1 hk1 hS => ?_)
  obtain ⟨hP1, hD1⟩ := hB
  rw [ht] at hP1
  try dsimp only at hw_20
  obtain ⟨hP, hD⟩ := va_join (wr := [(h0, .inr (10, zf 20 f_16)), (sc, .inr (7, zf 20 f2)), (lg, .inr (6, zf 3 f3))]) (w1 := [(na, .inr (3, zf 9 c0_20))]) hP hD [1] [0, 2, 3] rfl rfl (by decide) (by decide) hk1 hFc hP1 hD1
  generalize H1 = H at hP hS ⊢
  have hP : va_P D vwCl [(h0, .inr (10, zf 20 f_16)), (sc, .inr (7, zf 20 f2)), (lg, .inr (6, zf 3 f3)), (na, .inr (3, zf 9 c0_20))] H := hP
  have hD : va_D A [(h0, .inr (10, zf 20 f_16)), (sc, .inr (7, zf 20 f2)), (lg, .inr (6, zf 3 f3)), (na, .inr (3, zf 9 c0_20))] := hD
  refine W.widen (k := 0) (n := 0) (by omega) (by omega) ?_
  refine lv_aload_n hx hb dX10_begin_39 rfl (lv_at hl 0 rfl) ?_
  have e_22 : f_16 18 = .ref sc := ((ok_18 18 (by decide)).trans ((ok_15 18 (by decide)).trans ((ok_12 18 (by decide)).trans ((ok_9 18 (by decide)).trans ((ok_6 18 (by decide)).trans ((ok_3 18 (by decide)).trans h0_18))))))
  refine z_get (T := TX10) (N := 20) (ci := 10) hx hb hts (zi_10 _) hown hK hP 0 rfl rfl 18 (by decide) (hts _ (zm_107 _)) rfl e_22 dX10_begin_40 ?_
  have hPc := hP.sub (ws' := [(sc, .inr (7, zf 20 f2)), (lg, .inr (6, zf 3 f3))]) [1, 2] rfl
  have hDc := hD.sub (ws' := [(sc, .inr (7, zf 20 f2)), (lg, .inr (6, zf 3 f3))]) [1, 2] (by decide) rfl
  have hFc := va_free (wc := [(sc, .inr (7, zf 20 f2)), (lg, .inr (6, zf 3 f3))]) hD hS hA [1, 2] rfl
  have h_25 : 0 + 0 ≤ 0 ∧ 0 + 0 ≤ 0 := by omega
  refine va_callv (va_runVN (As := []) (rest := []) ⟨hx, hb, hml, hown, hts⟩ (c_Scope_begin l D x sc f2 lg f3 H.size h2_12) ⟨va_cnB 0 hts (zgood (zm_326 _) rfl) rfl rfl rfl (hZ.2.1 _ zn_140) (hts _ (zm_78 _)) ⟨by decide, by decide, by decide +kernel⟩ ⟨Nat.le_of_ble_eq_true rfl, Nat.le_of_ble_eq_true rfl⟩, hts _ (zm_327 _), hts _ (zm_328 _)⟩ ⟨fun a U g mk q => by obtain ⟨q0, q1, qP, qK, qD⟩ := q; exact ⟨q0, q1, qP, ZK.calling (u := U) zN_ok rfl qK, qD⟩, va_recv hK hPc (ci := 7) (q0 := 0) rfl rfl, fun U hU hW => ⟨rfl, by rw [hU], by rw [hU]; exact hPc, ZK.warm zN_ok hW hZ, hDc.weaken (fun _ _ _ _ => trivial)⟩⟩ rfl rfl hl.1 rfl (lv_room (Nat.le_of_ble_eq_true rfl)) dX10_begin_43 h_25) hS (fun q _ h => hFc q h) hFc (fun u t H1 locs ht hvm hw_24 hB hz1 hk1 hS => ?_)
  obtain ⟨c0_23, c1_24⟩ := u
  obtain ⟨hP1, hD1⟩ := hB
  rw [ht] at hP1
  try dsimp only at hw_24
  obtain ⟨hP, hD⟩ := va_join (wr := [(h0, .inr (10, zf 20 f_16)), (na, .inr (3, zf 9 c0_20))]) (w1 := [(sc, .inr (7, zf 20 c0_23)), (lg, .inr (6, zf 3 c1_24))]) hP hD [1, 2] [0, 3] rfl rfl (by decide) (by decide) hk1 hFc hP1 hD1
  generalize H1 = H at hP hS ⊢
  have hP : va_P D vwCl [(h0, .inr (10, zf 20 f_16)), (na, .inr (3, zf 9 c0_20)), (sc, .inr (7, zf 20 c0_23)), (lg, .inr (6, zf 3 c1_24))] H := hP
  have hD : va_D A [(h0, .inr (10, zf 20 f_16)), (na, .inr (3, zf 9 c0_20)), (sc, .inr (7, zf 20 c0_23)), (lg, .inr (6, zf 3 c1_24))] := hD
  refine W.widen (k := 0) (n := 0) (by omega) (by omega) ?_
  have e_26 : f_16 4 = .ref lv := ((ok_18 4 (by decide)).trans ((ok_15 4 (by decide)).trans ((ok_12 4 (by decide)).trans ((ok_9 4 (by decide)).trans ((ok_6 4 (by decide)).trans ((ok_3 4 (by decide)).trans h0_4))))))
  have e_27 : f_16 13 = .null := ((ok_18 13 (by decide)).trans ((ok_15 13 (by decide)).trans ((ok_12 13 (by decide)).trans ((ok_9 13 (by decide)).trans ((ok_6 13 (by decide)).trans ((ok_3 13 (by decide)).trans h0_13))))))
  have e_28 : f_16 14 = .int 0 := ((ok_18 14 (by decide)).trans ((ok_15 14 (by decide)).trans ((ok_12 14 (by decide)).trans ((ok_9 14 (by decide)).trans ((ok_6 14 (by decide)).trans ((ok_3 14 (by decide)).trans h0_14))))))
  have hP9 := hP.sub (ws' := [(h0, .inr (10, zf 20 f_16)), (na, .inr (3, zf 9 c0_20)), (sc, .inr (7, zf 20 c0_23)), (lg, .inr (6, zf 3 c1_24))]) [0, 1, 2, 3] rfl
  have hD9 := hD.sub (ws' := [(h0, .inr (10, zf 20 f_16)), (na, .inr (3, zf 9 c0_20)), (sc, .inr (7, zf 20 c0_23)), (lg, .inr (6, zf 3 c1_24))]) [0, 1, 2, 3] (by decide) rfl
  exact W.vret hx hb hr (fun t ht hW => ⟨⟨(f_16, c0_20, c0_23, c1_24), rfl, ⟨((ok_18 1 (by decide)).trans ((ok_15 1 (by decide)).trans ((ok_12 1 (by decide)).trans ((ok_9 1 (by decide)).trans ((ok_6 1 (by decide)).trans ek_2))))), ((ok_18 3 (by decide)).trans ((ok_15 3 (by decide)).trans ((ok_12 3 (by decide)).trans ((ok_9 3 (by decide)).trans ek_5)))), ((ok_18 5 (by decide)).trans ((ok_15 5 (by decide)).trans ((ok_12 5 (by decide)).trans ek_8))), ((ok_18 7 (by decide)).trans ((ok_15 7 (by decide)).trans ek_11)), ((ok_18 12 (by decide)).trans ek_14), ek_17, e_19, e_22, e_26, e_27, e_28, hw_24⟩, ⟨by rw [ht]; exact hP9, hD9⟩⟩, hS.F ht⟩) hS.2.2 dX10_begin_46

set_option maxHeartbeats 8000000 in
set_option maxRecDepth 100000 in
/-- Proc.begin(0, w) -/
theorem c_Proc_begin (l : Launch) (D : va_G) (x : Nat → ClassId) (w0 : Nat) (h0 : Nat) (f0 : Nat → Value) (co : Nat) (f1 : Nat → Value) (ou : Nat) (f2 : Nat → Value) (sz : Nat) (h0_12 : f0 12 = .ref co) (h0_13 : f0 13 = .ref ou) : Met l yX5_begin (.code yX5_begin cX5_begin 3 none :: zW) ({ frames := 1, cells := (0), slots := (0), locals := 20 }) (va_Pc [.ref h0, .int 0, .ref w0] (fun U => U.heap.size = sz ∧ va_P D vwCl [(h0, .inr (5, zf 14 f0)), (co, .inr (6, zf 3 f1)), (ou, .inr (6, zf 3 f2))] U.heap ∧ zK x D U ∧ va_D (fun _ => True) [(h0, .inr (5, zf 14 f0)), (co, .inr (6, zf 3 f1)), (ou, .inr (6, zf 3 f2))])) (va_Qv (fun u : (Nat → Value) × (Nat → Value) × (Nat → Value) => match u with | (c0, c1, c2) => c0 0 = .int 0 ∧ c0 1 = .ref w0) (fun u t => match u with | (c0, c1, c2) => zB D vwCl (va_A [(h0, .inr (5, zf 14 f0)), (co, .inr (6, zf 3 f1)), (ou, .inr (6, zf 3 f2))] sz) [(h0, .inr (5, zf 14 c0)), (co, .inr (6, zf 3 c1)), (ou, .inr (6, zf 3 c2))] t) (va_A [(h0, .inr (5, zf 14 f0)), (co, .inr (6, zf 3 f1)), (ou, .inr (6, zf 3 f2))] sz)) (0) (0) (va_A [(h0, .inr (5, zf 14 f0)), (co, .inr (6, zf 3 f1)), (ou, .inr (6, zf 3 f2))] sz) := by
  refine Met.ofW (cc := cX5_begin) (maxL := 3) (ret := none) (by decide) rfl ?_
  intro p e s m args below meth c s₁ B hml hv
  obtain ⟨rfl, hsz, hP, hZ, hD0⟩ := hv
  have hK := hZ.1
  have hx := B.exec
  have hb := B.bytes
  have hr := B.returns
  have hts := atoms_spec (ws := .code yX5_begin cX5_begin 3 none :: zW) B.pre
  have hown : s.vm.findClass RX5 = some m.cls := findClass_of_methodNamed B.named
  have hlocks := B.notSynchronized
  subst hsz
  have hD := hD0.self (sz := s.heap.size)
  generalize hAe : va_A [(h0, .inr (5, zf 14 f0)), (co, .inr (6, zf 3 f1)), (ou, .inr (6, zf 3 f2))] s.heap.size = A at hD ⊢
  have hA : ∀ q : Nat, s.heap.size ≤ q → A q := fun q h => by rw [← hAe]; exact Or.inr h
  have hS : va_S A s.heap s.heap [] := va_S.rf
  have hP : va_P D vwCl [(h0, .inr (5, zf 14 f0)), (co, .inr (6, zf 3 f1)), (ou, .inr (6, zf 3 f2))] s.heap := hP
  have hl := lv_entry ([.ref h0, .int 0, .ref w0]) (n := 3) (Nat.le_of_ble_eq_true rfl)
  rw [lg_entry_eq]
  generalize (lg_sl ([.ref h0, .int 0, .ref w0]) ++ List.replicate (3 - (lg_sl ([.ref h0, .int 0, .ref w0])).length) Slot.unset).toArray = ls at hl ⊢
  have hl : lv_has ls 3 [(0, .ref h0), (1, .int 0), (2, .ref w0)] := hl
  refine lv_aload_n hx hb dX5_begin_0 rfl (lv_at hl 0 rfl) ?_
  refine lv_iload_n hx hb dX5_begin_1 rfl (lv_at hl 1 rfl) ?_
  refine z_put (T := TX5) (N := 14) (ci := 5) hx hb hts (zi_5 _) hown hK hP hD hS 0 rfl rfl 0 (by decide) (hts _ (zm_352 _)) rfl rfl rfl rfl dX5_begin_2 (fun H locs f_1 ek_2 ok_3 hP hD hS => ?_)
  have hP : va_P D vwCl [(h0, .inr (5, zf 14 f_1)), (co, .inr (6, zf 3 f1)), (ou, .inr (6, zf 3 f2))] H := hP
  have hD : va_D A [(h0, .inr (5, zf 14 f_1)), (co, .inr (6, zf 3 f1)), (ou, .inr (6, zf 3 f2))] := hD
  refine lv_aload_n hx hb dX5_begin_5 rfl (lv_at hl 0 rfl) ?_
  refine lv_aload_n hx hb dX5_begin_6 rfl (lv_at hl 2 rfl) ?_
  refine z_put (T := TX5) (N := 14) (ci := 5) hx hb hts (zi_5 _) hown hK hP hD hS 0 rfl rfl 1 (by decide) (hts _ (zm_353 _)) rfl rfl rfl rfl dX5_begin_7 (fun H locs f_4 ek_5 ok_6 hP hD hS => ?_)
  have hP : va_P D vwCl [(h0, .inr (5, zf 14 f_4)), (co, .inr (6, zf 3 f1)), (ou, .inr (6, zf 3 f2))] H := hP
  have hD : va_D A [(h0, .inr (5, zf 14 f_4)), (co, .inr (6, zf 3 f1)), (ou, .inr (6, zf 3 f2))] := hD
  refine lv_aload_n hx hb dX5_begin_10 rfl (lv_at hl 0 rfl) ?_
  refine lv_iconst (v := 0) hx hb dX5_begin_11 (by decide) ?_
  refine z_put (T := TX5) (N := 14) (ci := 5) hx hb hts (zi_5 _) hown hK hP hD hS 0 rfl rfl 2 (by decide) (hts _ (zm_354 _)) rfl rfl rfl rfl dX5_begin_12 (fun H locs f_7 ek_8 ok_9 hP hD hS => ?_)
  have hP : va_P D vwCl [(h0, .inr (5, zf 14 f_7)), (co, .inr (6, zf 3 f1)), (ou, .inr (6, zf 3 f2))] H := hP
  have hD : va_D A [(h0, .inr (5, zf 14 f_7)), (co, .inr (6, zf 3 f1)), (ou, .inr (6, zf 3 f2))] := hD
  refine lv_aload_n hx hb dX5_begin_15 rfl (lv_at hl 0 rfl) ?_
  refine lv_iconst (v := 0) hx hb dX5_begin_16 (by decide) ?_
  refine z_put (T := TX5) (N := 14) (ci := 5) hx hb hts (zi_5 _) hown hK hP hD hS 0 rfl rfl 3 (by decide) (hts _ (zm_355 _)) rfl rfl rfl rfl dX5_begin_17 (fun H locs f_10 ek_11 ok_12 hP hD hS => ?_)
  have hP : va_P D vwCl [(h0, .inr (5, zf 14 f_10)), (co, .inr (6, zf 3 f1)), (ou, .inr (6, zf 3 f2))] H := hP
  have hD : va_D A [(h0, .inr (5, zf 14 f_10)), (co, .inr (6, zf 3 f1)), (ou, .inr (6, zf 3 f2))] := hD
  refine lv_aload_n hx hb dX5_begin_20 rfl (lv_at hl 0 rfl) ?_
  refine lv_lconst (v := 0) hx hb dX5_begin_21 (by decide) ?_
  refine z_put (T := TX5) (N := 14) (ci := 5) hx hb hts (zi_5 _) hown hK hP hD hS 0 rfl rfl 4 (by decide) (hts _ (zm_356 _)) rfl rfl rfl rfl dX5_begin_22 (fun H locs f_13 ek_14 ok_15 hP hD hS => ?_)
  have hP : va_P D vwCl [(h0, .inr (5, zf 14 f_13)), (co, .inr (6, zf 3 f1)), (ou, .inr (6, zf 3 f2))] H := hP
  have hD : va_D A [(h0, .inr (5, zf 14 f_13)), (co, .inr (6, zf 3 f1)), (ou, .inr (6, zf 3 f2))] := hD
  refine lv_aload_n hx hb dX5_begin_25 rfl (lv_at hl 0 rfl) ?_
  refine lv_iconst (v := 0) hx hb dX5_begin_26 (by decide) ?_
  refine z_put (T := TX5) (N := 14) (ci := 5) hx hb hts (zi_5 _) hown hK hP hD hS 0 rfl rfl 5 (by decide) (hts _ (zm_357 _)) rfl rfl rfl rfl dX5_begin_27 (fun H locs f_16 ek_17 ok_18 hP hD hS => ?_)
  have hP : va_P D vwCl [(h0, .inr (5, zf 14 f_16)), (co, .inr (6, zf 3 f1)), (ou, .inr (6, zf 3 f2))] H := hP
  have hD : va_D A [(h0, .inr (5, zf 14 f_16)), (co, .inr (6, zf 3 f1)), (ou, .inr (6, zf 3 f2))] := hD
  refine lv_aload_n hx hb dX5_begin_30 rfl (lv_at hl 0 rfl) ?_
  refine lv_iconst (v := 0) hx hb dX5_begin_31 (by decide) ?_
  refine z_put (T := TX5) (N := 14) (ci := 5) hx hb hts (zi_5 _) hown hK hP hD hS 0 rfl rfl 6 (by decide) (hts _ (zm_358 _)) rfl rfl rfl rfl dX5_begin_32 (fun H locs f_19 ek_20 ok_21 hP hD hS => ?_)
  have hP : va_P D vwCl [(h0, .inr (5, zf 14 f_19)), (co, .inr (6, zf 3 f1)), (ou, .inr (6, zf 3 f2))] H := hP
  have hD : va_D A [(h0, .inr (5, zf 14 f_19)), (co, .inr (6, zf 3 f1)), (ou, .inr (6, zf 3 f2))] := hD
  refine lv_aload_n hx hb dX5_begin_35 rfl (lv_at hl 0 rfl) ?_
  refine lv_iconst (v := 0) hx hb dX5_begin_36 (by decide) ?_
  refine z_put (T := TX5) (N := 14) (ci := 5) hx hb hts (zi_5 _) hown hK hP hD hS 0 rfl rfl 7 (by decide) (hts _ (zm_359 _)) rfl rfl rfl rfl dX5_begin_37 (fun H locs f_22 ek_23 ok_24 hP hD hS => ?_)
  have hP : va_P D vwCl [(h0, .inr (5, zf 14 f_22)), (co, .inr (6, zf 3 f1)), (ou, .inr (6, zf 3 f2))] H := hP
  have hD : va_D A [(h0, .inr (5, zf 14 f_22)), (co, .inr (6, zf 3 f1)), (ou, .inr (6, zf 3 f2))] := hD
  refine lv_aload_n hx hb dX5_begin_40 rfl (lv_at hl 0 rfl) ?_
  refine lv_iconst (v := 0) hx hb dX5_begin_41 (by decide) ?_
  refine z_put (T := TX5) (N := 14) (ci := 5) hx hb hts (zi_5 _) hown hK hP hD hS 0 rfl rfl 8 (by decide) (hts _ (zm_360 _)) rfl rfl rfl rfl dX5_begin_42 (fun H locs f_25 ek_26 ok_27 hP hD hS => ?_)
  have hP : va_P D vwCl [(h0, .inr (5, zf 14 f_25)), (co, .inr (6, zf 3 f1)), (ou, .inr (6, zf 3 f2))] H := hP
  have hD : va_D A [(h0, .inr (5, zf 14 f_25)), (co, .inr (6, zf 3 f1)), (ou, .inr (6, zf 3 f2))] := hD
  refine lv_aload_n hx hb dX5_begin_45 rfl (lv_at hl 0 rfl) ?_
  refine lv_iconst (v := 0) hx hb dX5_begin_46 (by decide) ?_
  refine z_put (T := TX5) (N := 14) (ci := 5) hx hb hts (zi_5 _) hown hK hP hD hS 0 rfl rfl 9 (by decide) (hts _ (zm_361 _)) rfl rfl rfl rfl dX5_begin_47 (fun H locs f_28 ek_29 ok_30 hP hD hS => ?_)
  have hP : va_P D vwCl [(h0, .inr (5, zf 14 f_28)), (co, .inr (6, zf 3 f1)), (ou, .inr (6, zf 3 f2))] H := hP
  have hD : va_D A [(h0, .inr (5, zf 14 f_28)), (co, .inr (6, zf 3 f1)), (ou, .inr (6, zf 3 f2))] := hD
  refine lv_aload_n hx hb dX5_begin_50 rfl (lv_at hl 0 rfl) ?_
  refine lv_iconst (v := 0) hx hb dX5_begin_51 (by decide) ?_
  refine z_put (T := TX5) (N := 14) (ci := 5) hx hb hts (zi_5 _) hown hK hP hD hS 0 rfl rfl 10 (by decide) (hts _ (zm_362 _)) rfl rfl rfl rfl dX5_begin_52 (fun H locs f_31 ek_32 ok_33 hP hD hS => ?_)
  have hP : va_P D vwCl [(h0, .inr (5, zf 14 f_31)), (co, .inr (6, zf 3 f1)), (ou, .inr (6, zf 3 f2))] H := hP
  have hD : va_D A [(h0, .inr (5, zf 14 f_31)), (co, .inr (6, zf 3 f1)), (ou, .inr (6, zf 3 f2))] := hD
  refine lv_aload_n hx hb dX5_begin_55 rfl (lv_at hl 0 rfl) ?_
  refine lv_iload_n hx hb dX5_begin_56 rfl (lv_at hl 1 rfl) ?_
  refine lv_i2l (v := 0) hx hb dX5_begin_57 (by decide) ?_
  refine z_put (T := TX5) (N := 14) (ci := 5) hx hb hts (zi_5 _) hown hK hP hD hS 0 rfl rfl 11 (by decide) (hts _ (zm_363 _)) rfl rfl rfl rfl dX5_begin_58 (fun H locs f_34 ek_35 ok_36 hP hD hS => ?_)
  have hP : va_P D vwCl [(h0, .inr (5, zf 14 f_34)), (co, .inr (6, zf 3 f1)), (ou, .inr (6, zf 3 f2))] H := hP
  have hD : va_D A [(h0, .inr (5, zf 14 f_34)), (co, .inr (6, zf 3 f1)), (ou, .inr (6, zf 3 f2))] := hD
  refine lv_aload_n hx hb dX5_begin_61 rfl (lv_at hl 0 rfl) ?_
  have e_37 : f_34 12 = .ref co := ((ok_36 12 (by decide)).trans ((ok_33 12 (by decide)).trans ((ok_30 12 (by decide)).trans ((ok_27 12 (by decide)).trans ((ok_24 12 (by decide)).trans ((ok_21 12 (by decide)).trans ((ok_18 12 (by decide)).trans ((ok_15 12 (by decide)).trans ((ok_12 12 (by decide)).trans ((ok_9 12 (by decide)).trans ((ok_6 12 (by decide)).trans ((ok_3 12 (by decide)).trans h0_12))))))))))))
  refine z_get (T := TX5) (N := 14) (ci := 5) hx hb hts (zi_5 _) hown hK hP 0 rfl rfl 12 (by decide) (hts _ (zm_70 _)) rfl e_37 dX5_begin_62 ?_
  have hPc := hP.sub (ws' := [(co, .inr (6, zf 3 f1))]) [1] rfl
  have hDc := hD.sub (ws' := [(co, .inr (6, zf 3 f1))]) [1] (by decide) rfl
  have hFc := va_free (wc := [(co, .inr (6, zf 3 f1))]) hD hS hA [1] rfl
  have h_39 : 0 + 0 ≤ 0 ∧ 0 + 0 ≤ 0 := by omega
  refine va_callv (va_runVN (As := []) (rest := []) ⟨hx, hb, hml, hown, hts⟩ (c_Row_clear0 l D x co f1 H.size) ⟨va_cnB 0 hts (zgood (zm_181 _) rfl) rfl rfl rfl (hZ.2.1 _ zn_142) (hts _ (zm_7 _)) ⟨by decide, by decide, by decide +kernel⟩ ⟨Nat.le_of_ble_eq_true rfl, Nat.le_of_ble_eq_true rfl⟩, hts _ (zm_182 _), hts _ (zm_183 _)⟩ ⟨fun a U g mk q => by obtain ⟨q0, q1, qP, qK, qD⟩ := q; exact ⟨q0, q1, qP, ZK.calling (u := U) zN_ok rfl qK, qD⟩, va_recv hK hPc (ci := 6) (q0 := 0) rfl rfl, fun U hU hW => ⟨rfl, by rw [hU], by rw [hU]; exact hPc, ZK.warm zN_ok hW hZ, hDc.weaken (fun _ _ _ _ => trivial)⟩⟩ rfl rfl hl.1 rfl (lv_room (Nat.le_of_ble_eq_true rfl)) dX5_begin_65 h_39) hS (fun q _ h => hFc q h) hFc (fun c0_38 t H1 locs ht hvm hw_38 hB hz1 hk1 hS => ?_)
  obtain ⟨hP1, hD1⟩ := hB
  rw [ht] at hP1
  try dsimp only at hw_38
  obtain ⟨hP, hD⟩ := va_join (wr := [(h0, .inr (5, zf 14 f_34)), (ou, .inr (6, zf 3 f2))]) (w1 := [(co, .inr (6, zf 3 c0_38))]) hP hD [1] [0, 2] rfl rfl (by decide) (by decide) hk1 hFc hP1 hD1
  generalize H1 = H at hP hS ⊢
  have hP : va_P D vwCl [(h0, .inr (5, zf 14 f_34)), (ou, .inr (6, zf 3 f2)), (co, .inr (6, zf 3 c0_38))] H := hP
  have hD : va_D A [(h0, .inr (5, zf 14 f_34)), (ou, .inr (6, zf 3 f2)), (co, .inr (6, zf 3 c0_38))] := hD
  refine W.widen (k := 0) (n := 0) (by omega) (by omega) ?_
  refine lv_aload_n hx hb dX5_begin_68 rfl (lv_at hl 0 rfl) ?_
  have e_40 : f_34 13 = .ref ou := ((ok_36 13 (by decide)).trans ((ok_33 13 (by decide)).trans ((ok_30 13 (by decide)).trans ((ok_27 13 (by decide)).trans ((ok_24 13 (by decide)).trans ((ok_21 13 (by decide)).trans ((ok_18 13 (by decide)).trans ((ok_15 13 (by decide)).trans ((ok_12 13 (by decide)).trans ((ok_9 13 (by decide)).trans ((ok_6 13 (by decide)).trans ((ok_3 13 (by decide)).trans h0_13))))))))))))
  refine z_get (T := TX5) (N := 14) (ci := 5) hx hb hts (zi_5 _) hown hK hP 0 rfl rfl 13 (by decide) (hts _ (zm_72 _)) rfl e_40 dX5_begin_69 ?_
  have hPc := hP.sub (ws' := [(ou, .inr (6, zf 3 f2))]) [1] rfl
  have hDc := hD.sub (ws' := [(ou, .inr (6, zf 3 f2))]) [1] (by decide) rfl
  have hFc := va_free (wc := [(ou, .inr (6, zf 3 f2))]) hD hS hA [1] rfl
  have h_42 : 0 + 0 ≤ 0 ∧ 0 + 0 ≤ 0 := by omega
  refine va_callv (va_runVN (As := []) (rest := []) ⟨hx, hb, hml, hown, hts⟩ (c_Row_clear0 l D x ou f2 H.size) ⟨va_cnB 0 hts (zgood (zm_181 _) rfl) rfl rfl rfl (hZ.2.1 _ zn_142) (hts _ (zm_7 _)) ⟨by decide, by decide, by decide +kernel⟩ ⟨Nat.le_of_ble_eq_true rfl, Nat.le_of_ble_eq_true rfl⟩, hts _ (zm_182 _), hts _ (zm_183 _)⟩ ⟨fun a U g mk q => by obtain ⟨q0, q1, qP, qK, qD⟩ := q; exact ⟨q0, q1, qP, ZK.calling (u := U) zN_ok rfl qK, qD⟩, va_recv hK hPc (ci := 6) (q0 := 0) rfl rfl, fun U hU hW => ⟨rfl, by rw [hU], by rw [hU]; exact hPc, ZK.warm zN_ok hW hZ, hDc.weaken (fun _ _ _ _ => trivial)⟩⟩ rfl rfl hl.1 rfl (lv_room (Nat.le_of_ble_eq_true rfl)) dX5_begin_72 h_42) hS (fun q _ h => hFc q h) hFc (fun c0_41 t H1 locs ht hvm hw_41 hB hz1 hk1 hS => ?_)
  obtain ⟨hP1, hD1⟩ := hB
  rw [ht] at hP1
  try dsimp only at hw_41
  obtain ⟨hP, hD⟩ := va_join (wr := [(h0, .inr (5, zf 14 f_34)), (co, .inr (6, zf 3 c0_38))]) (w1 := [(ou, .inr (6, zf 3 c0_41))]) hP hD [1] [0, 2] rfl rfl (by decide) (by decide) hk1 hFc hP1 hD1
  generalize H1 = H at hP hS ⊢
  have hP : va_P D vwCl [(h0, .inr (5, zf 14 f_34)), (co, .inr (6, zf 3 c0_38)), (ou, .inr (6, zf 3 c0_41))] H := hP
  have hD : va_D A [(h0, .inr (5, zf 14 f_34)), (co, .inr (6, zf 3 c0_38)), (ou, .inr (6, zf 3 c0_41))] := hD
  refine W.widen (k := 0) (n := 0) (by omega) (by omega) ?_
  have e_43 : f_34 0 = .int 0 := ((ok_36 0 (by decide)).trans ((ok_33 0 (by decide)).trans ((ok_30 0 (by decide)).trans ((ok_27 0 (by decide)).trans ((ok_24 0 (by decide)).trans ((ok_21 0 (by decide)).trans ((ok_18 0 (by decide)).trans ((ok_15 0 (by decide)).trans ((ok_12 0 (by decide)).trans ((ok_9 0 (by decide)).trans ((ok_6 0 (by decide)).trans ek_2)))))))))))
  have e_44 : f_34 1 = .ref w0 := ((ok_36 1 (by decide)).trans ((ok_33 1 (by decide)).trans ((ok_30 1 (by decide)).trans ((ok_27 1 (by decide)).trans ((ok_24 1 (by decide)).trans ((ok_21 1 (by decide)).trans ((ok_18 1 (by decide)).trans ((ok_15 1 (by decide)).trans ((ok_12 1 (by decide)).trans ((ok_9 1 (by decide)).trans ek_5))))))))))
  have hP9 := hP.sub (ws' := [(h0, .inr (5, zf 14 f_34)), (co, .inr (6, zf 3 c0_38)), (ou, .inr (6, zf 3 c0_41))]) [0, 1, 2] rfl
  have hD9 := hD.sub (ws' := [(h0, .inr (5, zf 14 f_34)), (co, .inr (6, zf 3 c0_38)), (ou, .inr (6, zf 3 c0_41))]) [0, 1, 2] (by decide) rfl
  exact W.vret hx hb hr (fun t ht hW => ⟨⟨(f_34, c0_38, c0_41), rfl, ⟨e_43, e_44⟩, ⟨by rw [ht]; exact hP9, hD9⟩⟩, hS.F ht⟩) hS.2.2 dX5_begin_75

set_option maxHeartbeats 8000000 in
set_option maxRecDepth 100000 in
/-- Machine.isBusy where there are none -/
theorem c_isBusy0 (l : Launch) (D : va_G) (x : Nat → ClassId) (w0 : Nat) (h0 : Nat) (f0 : Nat → Value) (sz : Nat) (h0_4 : f0 4 = .int 0) : Met l yX2_isBusy (.code yX2_isBusy cX2_isBusy 4 (some .boolean) :: zW) ({ frames := 0, cells := (0), slots := (0), locals := 0 }) (va_Pc [.ref h0, .ref w0] (fun U => U.heap.size = sz ∧ va_P D vwCl [(h0, .inr (2, zf 19 f0))] U.heap ∧ zK x D U ∧ va_D (fun _ => True) [(h0, .inr (2, zf 19 f0))])) (va_Qi (fun (r : Int32) (u : Unit) => r = 0) (fun u t => zB D vwCl (va_A [(h0, .inr (2, zf 19 f0))] sz) [(h0, .inr (2, zf 19 f0))] t) (va_A [(h0, .inr (2, zf 19 f0))] sz)) (0) (0) (va_A [(h0, .inr (2, zf 19 f0))] sz) := by
  refine Met.ofW (cc := cX2_isBusy) (maxL := 4) (ret := (some .boolean)) (by decide) rfl ?_
  intro p e s m args below meth c s₁ B hml hv
  obtain ⟨rfl, hsz, hP, hZ, hD0⟩ := hv
  have hK := hZ.1
  have hx := B.exec
  have hb := B.bytes
  have hr := B.returns
  have hts := atoms_spec (ws := .code yX2_isBusy cX2_isBusy 4 (some .boolean) :: zW) B.pre
  have hown : s.vm.findClass RX2 = some m.cls := findClass_of_methodNamed B.named
  have hlocks := B.notSynchronized
  subst hsz
  have hD := hD0.self (sz := s.heap.size)
  generalize hAe : va_A [(h0, .inr (2, zf 19 f0))] s.heap.size = A at hD ⊢
  have hA : ∀ q : Nat, s.heap.size ≤ q → A q := fun q h => by rw [← hAe]; exact Or.inr h
  have hS : va_S A s.heap s.heap [] := va_S.rf
  have hP : va_P D vwCl [(h0, .inr (2, zf 19 f0))] s.heap := hP
  have hl := lv_entry ([.ref h0, .ref w0]) (n := 4) (Nat.le_of_ble_eq_true rfl)
  rw [lg_entry_eq]
  generalize (lg_sl ([.ref h0, .ref w0]) ++ List.replicate (4 - (lg_sl ([.ref h0, .ref w0])).length) Slot.unset).toArray = ls at hl ⊢
  have hl : lv_has ls 4 [(0, .ref h0), (1, .ref w0)] := hl
  refine lv_iconst (v := 0) hx hb dX2_isBusy_0 (by decide) ?_
  refine lv_istore_n (lv' := [(2, .int 0), (0, .ref h0), (1, .ref w0)]) hx hb dX2_isBusy_1 rfl hl (by decide) rfl (fun ls hl => ?_)
  refine lv_iload_n hx hb dX2_isBusy_2 rfl (lv_at hl 0 rfl) ?_
  refine lv_aload_n hx hb dX2_isBusy_3 rfl (lv_at hl 1 rfl) ?_
  refine z_get (T := TX2) (N := 19) (ci := 2) hx hb hts (zi_2 _) hown hK hP 0 rfl rfl 4 (by decide) (hts _ (zm_288 _)) rfl h0_4 dX2_isBusy_4 ?_
  refine lv_icmp_ge (tgt := 41) hx hb dX2_isBusy_7 (by decide) (fun _ => ?_) (fun c9 => absurd (by decide) c9)
  refine lv_iconst (v := 0) hx hb dX2_isBusy_41 (by decide) ?_
  have hP9 := hP.sub (ws' := [(h0, .inr (2, zf 19 f0))]) [0] rfl
  have hD9 := hD.sub (ws' := [(h0, .inr (2, zf 19 f0))]) [0] (by decide) rfl
  exact W.zret (v := 0) hx hb hr (by decide) (fun t ht hW => ⟨⟨_, (), rfl, rfl, ⟨by rw [ht]; exact hP9, hD9⟩⟩, hS.F ht⟩) hS.2.2 dX2_isBusy_42

set_option maxHeartbeats 8000000 in
set_option maxRecDepth 100000 in
/-- Machine.create, the first -/
theorem c_create0 (l : Launch) (D : va_G) (x : Nat → ClassId) (h0 : Nat) (f0 : Nat → Value) (pr : Nat) (gp : Nat → Option Nat) (wk : Nat) (gw : Nat → Option Nat) (p0 : Nat) (fp : Nat → Value) (co : Nat) (f4 : Nat → Value) (ou : Nat) (f5 : Nat → Value) (w0 : Nat) (fw : Nat → Value) (na : Nat) (f1 : Nat → Value) (sc : Nat) (f2 : Nat → Value) (lg : Nat) (f3 : Nat → Value) (lv : Nat) (sz : Nat) (h0_4 : f0 4 = .int 0) (h0_3 : f0 3 = .ref pr) (h0_5 : f0 5 = .ref wk) (h1_0 : gp 0 = some p0) (h2_0 : gw 0 = some w0) (h3_12 : fp 12 = .ref co) (h3_13 : fp 13 = .ref ou) (h6_17 : fw 17 = .ref na) (h6_18 : fw 18 = .ref sc) (h6_4 : fw 4 = .ref lv) (h6_13 : fw 13 = .null) (h6_14 : fw 14 = .int 0) (h8_12 : f2 12 = .ref lg) : Met l yX2_create (.code yX2_create cX2_create 4 (some (.object "MumpsHouse$Proc")) :: zW) ({ frames := 3, cells := (0), slots := (0), locals := 60 }) (va_Pc [.ref h0] (fun U => U.heap.size = sz ∧ va_P D vwCl [(h0, .inr (2, zf 19 f0)), (pr, .inl (x 9, 24, .inr (.inr (.inr (.inr gp))))), (wk, .inl (x 10, 6, .inr (.inr (.inr (.inr gw))))), (p0, .inr (5, zf 14 fp)), (co, .inr (6, zf 3 f4)), (ou, .inr (6, zf 3 f5)), (w0, .inr (10, zf 20 fw)), (na, .inr (3, zf 9 f1)), (sc, .inr (7, zf 20 f2)), (lg, .inr (6, zf 3 f3))] U.heap ∧ zK x D U ∧ va_D (fun _ => True) [(h0, .inr (2, zf 19 f0)), (pr, .inl (x 9, 24, .inr (.inr (.inr (.inr gp))))), (wk, .inl (x 10, 6, .inr (.inr (.inr (.inr gw))))), (p0, .inr (5, zf 14 fp)), (co, .inr (6, zf 3 f4)), (ou, .inr (6, zf 3 f5)), (w0, .inr (10, zf 20 fw)), (na, .inr (3, zf 9 f1)), (sc, .inr (7, zf 20 f2)), (lg, .inr (6, zf 3 f3))])) (va_Qr (fun u : (Nat → Value) × (Nat → Value) × (Nat → Value) × (Nat → Value) × (Nat → Value) × (Nat → Value) × (Nat → Value) × (Nat → Value) => match u with | (c0, c3, c4, c5, c6, c7, c8, c9) => c3 0 = .int 0 ∧ c3 1 = .ref w0 ∧ c6 1 = .int 0 ∧ c6 3 = .int 0 ∧ c6 5 = .int 0 ∧ c6 7 = .int 0 ∧ c6 12 = .int 0 ∧ c6 16 = .int 0 ∧ c6 17 = .ref na ∧ c6 18 = .ref sc ∧ c6 4 = .ref lv ∧ c6 13 = .null ∧ c6 14 = .int 0 ∧ c8 5 = .int 0) (fun u ra t => match u with | (c0, c3, c4, c5, c6, c7, c8, c9) => p0 = ra ∧ zB D vwCl (va_A [(h0, .inr (2, zf 19 f0)), (pr, .inl (x 9, 24, .inr (.inr (.inr (.inr gp))))), (wk, .inl (x 10, 6, .inr (.inr (.inr (.inr gw))))), (p0, .inr (5, zf 14 fp)), (co, .inr (6, zf 3 f4)), (ou, .inr (6, zf 3 f5)), (w0, .inr (10, zf 20 fw)), (na, .inr (3, zf 9 f1)), (sc, .inr (7, zf 20 f2)), (lg, .inr (6, zf 3 f3))] sz) [(h0, .inr (2, zf 19 c0)), (pr, .inl (x 9, 24, .inr (.inr (.inr (.inr gp))))), (wk, .inl (x 10, 6, .inr (.inr (.inr (.inr gw))))), (p0, .inr (5, zf 14 c3)), (co, .inr (6, zf 3 c4)), (ou, .inr (6, zf 3 c5)), (w0, .inr (10, zf 20 c6)), (na, .inr (3, zf 9 c7)), (sc, .inr (7, zf 20 c8)), (lg, .inr (6, zf 3 c9))] t) (va_A [(h0, .inr (2, zf 19 f0)), (pr, .inl (x 9, 24, .inr (.inr (.inr (.inr gp))))), (wk, .inl (x 10, 6, .inr (.inr (.inr (.inr gw))))), (p0, .inr (5, zf 14 fp)), (co, .inr (6, zf 3 f4)), (ou, .inr (6, zf 3 f5)), (w0, .inr (10, zf 20 fw)), (na, .inr (3, zf 9 f1)), (sc, .inr (7, zf 20 f2)), (lg, .inr (6, zf 3 f3))] sz)) (0) (0) (va_A [(h0, .inr (2, zf 19 f0)), (pr, .inl (x 9, 24, .inr (.inr (.inr (.inr gp))))), (wk, .inl (x 10, 6, .inr (.inr (.inr (.inr gw))))), (p0, .inr (5, zf 14 fp)), (co, .inr (6, zf 3 f4)), (ou, .inr (6, zf 3 f5)), (w0, .inr (10, zf 20 fw)), (na, .inr (3, zf 9 f1)), (sc, .inr (7, zf 20 f2)), (lg, .inr (6, zf 3 f3))] sz) := by
  refine Met.ofW (cc := cX2_create) (maxL := 4) (ret := (some (.object "MumpsHouse$Proc"))) (by decide) rfl ?_
  intro p e s m args below meth c s₁ B hml hv
  obtain ⟨rfl, hsz, hP, hZ, hD0⟩ := hv
  have hK := hZ.1
  have hx := B.exec
  have hb := B.bytes
  have hr := B.returns
  have hts := atoms_spec (ws := .code yX2_create cX2_create 4 (some (.object "MumpsHouse$Proc")) :: zW) B.pre
  have hown : s.vm.findClass RX2 = some m.cls := findClass_of_methodNamed B.named
  have hlocks := B.notSynchronized
  subst hsz
  have hD := hD0.self (sz := s.heap.size)
  generalize hAe : va_A [(h0, .inr (2, zf 19 f0)), (pr, .inl (x 9, 24, .inr (.inr (.inr (.inr gp))))), (wk, .inl (x 10, 6, .inr (.inr (.inr (.inr gw))))), (p0, .inr (5, zf 14 fp)), (co, .inr (6, zf 3 f4)), (ou, .inr (6, zf 3 f5)), (w0, .inr (10, zf 20 fw)), (na, .inr (3, zf 9 f1)), (sc, .inr (7, zf 20 f2)), (lg, .inr (6, zf 3 f3))] s.heap.size = A at hD ⊢
  have hA : ∀ q : Nat, s.heap.size ≤ q → A q := fun q h => by rw [← hAe]; exact Or.inr h
  have hS : va_S A s.heap s.heap [] := va_S.rf
  have hP : va_P D vwCl [(h0, .inr (2, zf 19 f0)), (pr, .inl (x 9, 24, .inr (.inr (.inr (.inr gp))))), (wk, .inl (x 10, 6, .inr (.inr (.inr (.inr gw))))), (p0, .inr (5, zf 14 fp)), (co, .inr (6, zf 3 f4)), (ou, .inr (6, zf 3 f5)), (w0, .inr (10, zf 20 fw)), (na, .inr (3, zf 9 f1)), (sc, .inr (7, zf 20 f2)), (lg, .inr (6, zf 3 f3))] s.heap := hP
  have hl := lv_entry ([.ref h0]) (n := 4) (Nat.le_of_ble_eq_true rfl)
  rw [lg_entry_eq]
  generalize (lg_sl ([.ref h0]) ++ List.replicate (4 - (lg_sl ([.ref h0])).length) Slot.unset).toArray = ls at hl ⊢
  have hl : lv_has ls 4 [(0, .ref h0)] := hl
  refine lv_iconst (v := 0) hx hb dX2_create_0 (by decide) ?_
  refine lv_istore_n (lv' := [(1, .int 0), (0, .ref h0)]) hx hb dX2_create_1 rfl hl (by decide) rfl (fun ls hl => ?_)
  refine lv_iload_n hx hb dX2_create_2 rfl (lv_at hl 0 rfl) ?_
  refine lv_aload_n hx hb dX2_create_3 rfl (lv_at hl 1 rfl) ?_
  refine z_get (T := TX2) (N := 19) (ci := 2) hx hb hts (zi_2 _) hown hK hP 0 rfl rfl 5 (by decide) (hts _ (zm_153 _)) rfl h0_5 dX2_create_4 ?_
  refine va_alen (v := 6) hx hb hK hP 2 10 rfl rfl rfl dX2_create_7 ?_
  refine lv_icmp_ge (tgt := 30) hx hb dX2_create_8 (by decide) (fun c9 => absurd c9 (by decide)) (fun _ => ?_)
  refine lv_aload_n hx hb dX2_create_11 rfl (lv_at hl 1 rfl) ?_
  refine lv_aload_n hx hb dX2_create_12 rfl (lv_at hl 1 rfl) ?_
  refine z_get (T := TX2) (N := 19) (ci := 2) hx hb hts (zi_2 _) hown hK hP 0 rfl rfl 5 (by decide) (hts _ (zm_153 _)) rfl h0_5 dX2_create_13 ?_
  refine lv_iload_n hx hb dX2_create_16 rfl (lv_at hl 0 rfl) ?_
  refine z_aldq hx hb hK hP 2 10 rfl rfl (z_in (by decide)) h2_0 dX2_create_17 ?_
  have hPc := hP.sub (ws' := [(h0, .inr (2, zf 19 f0))]) [0] rfl
  have hDc := hD.sub (ws' := [(h0, .inr (2, zf 19 f0))]) [0] (by decide) rfl
  have hFc := va_free (wc := [(h0, .inr (2, zf 19 f0))]) hD hS hA [0] rfl
  have h_2 : 0 + 0 ≤ 0 ∧ 0 + 0 ≤ 0 := by omega
  refine va_calli (va_runV (As := [.ref w0]) (rest := []) ⟨hx, hb, hml, hown, hts⟩ (c_isBusy0 l D x w0 h0 f0 s.heap.size h0_4) ⟨callB_of 1 hts (zgood (zm_310 _) rfl) rfl rfl rfl (hts _ (zm_146 _)) (hts _ (zm_309 _)) ⟨by decide, by decide, by decide +kernel⟩ ⟨Nat.le_of_ble_eq_true rfl, Nat.le_of_ble_eq_true rfl⟩, hts _ (zm_311 _), hts _ (zm_312 _)⟩ ⟨fun a U g mk q => by obtain ⟨q0, q1, qP, qK, qD⟩ := q; exact ⟨q0, q1, qP, ZK.calling (u := U) zN_ok rfl qK, qD⟩, va_recv hK hPc (ci := 2) (q0 := 0) rfl rfl, fun U hU hW => ⟨rfl, by rw [hU], by rw [hU]; exact hPc, ZK.warm zN_ok hW hZ, hDc.weaken (fun _ _ _ _ => trivial)⟩⟩ rfl rfl hl.1 rfl (lv_room (Nat.le_of_ble_eq_true rfl)) dX2_create_18 h_2) hS (fun q _ h => hFc q h) hFc (fun r_1 u t H1 locs ht hvm hw_1 hB hz1 hk1 hS => ?_)
  obtain ⟨hP1, hD1⟩ := hB
  rw [ht] at hP1
  try dsimp only at hw_1
  obtain ⟨hP, hD⟩ := va_join (wr := [(pr, .inl (x 9, 24, .inr (.inr (.inr (.inr gp))))), (wk, .inl (x 10, 6, .inr (.inr (.inr (.inr gw))))), (p0, .inr (5, zf 14 fp)), (co, .inr (6, zf 3 f4)), (ou, .inr (6, zf 3 f5)), (w0, .inr (10, zf 20 fw)), (na, .inr (3, zf 9 f1)), (sc, .inr (7, zf 20 f2)), (lg, .inr (6, zf 3 f3))]) (w1 := [(h0, .inr (2, zf 19 f0))]) hP hD [0] [1, 2, 3, 4, 5, 6, 7, 8, 9] rfl rfl (by decide) (by decide) hk1 hFc hP1 hD1
  generalize H1 = H at hP hS ⊢
  have hP : va_P D vwCl [(pr, .inl (x 9, 24, .inr (.inr (.inr (.inr gp))))), (wk, .inl (x 10, 6, .inr (.inr (.inr (.inr gw))))), (p0, .inr (5, zf 14 fp)), (co, .inr (6, zf 3 f4)), (ou, .inr (6, zf 3 f5)), (w0, .inr (10, zf 20 fw)), (na, .inr (3, zf 9 f1)), (sc, .inr (7, zf 20 f2)), (lg, .inr (6, zf 3 f3)), (h0, .inr (2, zf 19 f0))] H := hP
  have hD : va_D A [(pr, .inl (x 9, 24, .inr (.inr (.inr (.inr gp))))), (wk, .inl (x 10, 6, .inr (.inr (.inr (.inr gw))))), (p0, .inr (5, zf 14 fp)), (co, .inr (6, zf 3 f4)), (ou, .inr (6, zf 3 f5)), (w0, .inr (10, zf 20 fw)), (na, .inr (3, zf 9 f1)), (sc, .inr (7, zf 20 f2)), (lg, .inr (6, zf 3 f3)), (h0, .inr (2, zf 19 f0))] := hD
  refine W.widen (k := 0) (n := 0) (by omega) (by omega) ?_
  obtain rfl : r_1 = 0 := hw_1
  refine lv_if_eq (tgt := 30) hx hb dX2_create_21 (by decide) (fun _ => ?_) (fun c9 => absurd (by decide) c9)
  refine lv_iload_n hx hb dX2_create_30 rfl (lv_at hl 0 rfl) ?_
  refine lv_aload_n hx hb dX2_create_31 rfl (lv_at hl 1 rfl) ?_
  refine z_get (T := TX2) (N := 19) (ci := 2) hx hb hts (zi_2 _) hown hK hP 9 rfl rfl 5 (by decide) (hts _ (zm_153 _)) rfl h0_5 dX2_create_32 ?_
  refine va_alen (v := 6) hx hb hK hP 1 10 rfl rfl rfl dX2_create_35 ?_
  refine lv_icmp_ge (tgt := 48) hx hb dX2_create_36 (by decide) (fun c9 => absurd c9 (by decide)) (fun _ => ?_)
  refine lv_aload_n hx hb dX2_create_39 rfl (lv_at hl 1 rfl) ?_
  refine z_get (T := TX2) (N := 19) (ci := 2) hx hb hts (zi_2 _) hown hK hP 9 rfl rfl 5 (by decide) (hts _ (zm_153 _)) rfl h0_5 dX2_create_40 ?_
  refine lv_iload_n hx hb dX2_create_43 rfl (lv_at hl 0 rfl) ?_
  refine z_aldq hx hb hK hP 1 10 rfl rfl (z_in (by decide)) h2_0 dX2_create_44 ?_
  refine lv_goto (tgt := 49) hx hb dX2_create_45 (by decide) ?_
  refine lv_astore_n (lv' := [(2, .ref w0), (1, .int 0), (0, .ref h0)]) hx hb dX2_create_49 rfl hl (by decide) rfl (fun ls hl => ?_)
  refine lv_aload_n hx hb dX2_create_50 rfl (lv_at hl 2 rfl) ?_
  refine z_get (T := TX2) (N := 19) (ci := 2) hx hb hts (zi_2 _) hown hK hP 9 rfl rfl 4 (by decide) (hts _ (zm_288 _)) rfl h0_4 dX2_create_51 ?_
  refine lv_if_lt (tgt := 81) hx hb dX2_create_54 (by decide) (fun c9 => absurd c9 (by decide)) (fun _ => ?_)
  refine lv_aload_n hx hb dX2_create_57 rfl (lv_at hl 2 rfl) ?_
  refine z_get (T := TX2) (N := 19) (ci := 2) hx hb hts (zi_2 _) hown hK hP 9 rfl rfl 4 (by decide) (hts _ (zm_288 _)) rfl h0_4 dX2_create_58 ?_
  refine lv_aload_n hx hb dX2_create_61 rfl (lv_at hl 2 rfl) ?_
  refine z_get (T := TX2) (N := 19) (ci := 2) hx hb hts (zi_2 _) hown hK hP 9 rfl rfl 3 (by decide) (hts _ (zm_152 _)) rfl h0_3 dX2_create_62 ?_
  refine va_alen (v := 24) hx hb hK hP 0 9 rfl rfl rfl dX2_create_65 ?_
  refine lv_icmp_ge (tgt := 81) hx hb dX2_create_66 (by decide) (fun c9 => absurd c9 (by decide)) (fun _ => ?_)
  refine lv_aload_n hx hb dX2_create_69 rfl (lv_at hl 2 rfl) ?_
  refine z_get (T := TX2) (N := 19) (ci := 2) hx hb hts (zi_2 _) hown hK hP 9 rfl rfl 3 (by decide) (hts _ (zm_152 _)) rfl h0_3 dX2_create_70 ?_
  refine lv_aload_n hx hb dX2_create_73 rfl (lv_at hl 2 rfl) ?_
  refine z_get (T := TX2) (N := 19) (ci := 2) hx hb hts (zi_2 _) hown hK hP 9 rfl rfl 4 (by decide) (hts _ (zm_288 _)) rfl h0_4 dX2_create_74 ?_
  refine z_aldq hx hb hK hP 0 9 rfl rfl (z_in (by decide)) h1_0 dX2_create_77 ?_
  refine lv_goto (tgt := 82) hx hb dX2_create_78 (by decide) ?_
  refine lv_astore_n (lv' := [(3, .ref p0), (2, .ref w0), (1, .int 0), (0, .ref h0)]) hx hb dX2_create_82 rfl hl (by decide) rfl (fun ls hl => ?_)
  refine lv_aload_n hx hb dX2_create_83 rfl (lv_at hl 1 rfl) ?_
  refine lv_ifnull hx hb dX2_create_84 ?_
  refine lv_aload_n hx hb dX2_create_87 rfl (lv_at hl 0 rfl) ?_
  refine lv_ifnonnull (tgt := 93) hx hb dX2_create_88 (by decide) ?_
  refine lv_aload_n hx hb dX2_create_93 rfl (lv_at hl 1 rfl) ?_
  have hPc := hP.sub (ws' := [(w0, .inr (10, zf 20 fw)), (na, .inr (3, zf 9 f1)), (sc, .inr (7, zf 20 f2)), (lg, .inr (6, zf 3 f3))]) [5, 6, 7, 8] rfl
  have hDc := hD.sub (ws' := [(w0, .inr (10, zf 20 fw)), (na, .inr (3, zf 9 f1)), (sc, .inr (7, zf 20 f2)), (lg, .inr (6, zf 3 f3))]) [5, 6, 7, 8] (by decide) rfl
  have hFc := va_free (wc := [(w0, .inr (10, zf 20 fw)), (na, .inr (3, zf 9 f1)), (sc, .inr (7, zf 20 f2)), (lg, .inr (6, zf 3 f3))]) hD hS hA [5, 6, 7, 8] rfl
  have h_7 : 0 + 0 ≤ 0 ∧ 0 + 0 ≤ 0 := by omega
  refine va_callv (va_runVN (As := []) (rest := []) ⟨hx, hb, hml, hown, hts⟩ (c_Work_begin l D x w0 fw na f1 sc f2 lg f3 lv H.size h6_17 h6_18 h6_4 h6_13 h6_14 h8_12) ⟨va_cnB 0 hts (zgood (zm_317 _) rfl) rfl rfl rfl (hZ.2.1 _ zn_129) (hts _ (zm_92 _)) ⟨by decide, by decide, by decide +kernel⟩ ⟨Nat.le_of_ble_eq_true rfl, Nat.le_of_ble_eq_true rfl⟩, hts _ (zm_318 _), hts _ (zm_319 _)⟩ ⟨fun a U g mk q => by obtain ⟨q0, q1, qP, qK, qD⟩ := q; exact ⟨q0, q1, qP, ZK.calling (u := U) zN_ok rfl qK, qD⟩, va_recv hK hPc (ci := 10) (q0 := 0) rfl rfl, fun U hU hW => ⟨rfl, by rw [hU], by rw [hU]; exact hPc, ZK.warm zN_ok hW hZ, hDc.weaken (fun _ _ _ _ => trivial)⟩⟩ rfl rfl hl.1 rfl (lv_room (Nat.le_of_ble_eq_true rfl)) dX2_create_94 h_7) hS (fun q _ h => hFc q h) hFc (fun u t H1 locs ht hvm hw_6 hB hz1 hk1 hS => ?_)
  obtain ⟨c0_3, c1_4, c2_5, c3_6⟩ := u
  obtain ⟨hP1, hD1⟩ := hB
  rw [ht] at hP1
  try dsimp only at hw_6
  obtain ⟨hP, hD⟩ := va_join (wr := [(pr, .inl (x 9, 24, .inr (.inr (.inr (.inr gp))))), (wk, .inl (x 10, 6, .inr (.inr (.inr (.inr gw))))), (p0, .inr (5, zf 14 fp)), (co, .inr (6, zf 3 f4)), (ou, .inr (6, zf 3 f5)), (h0, .inr (2, zf 19 f0))]) (w1 := [(w0, .inr (10, zf 20 c0_3)), (na, .inr (3, zf 9 c1_4)), (sc, .inr (7, zf 20 c2_5)), (lg, .inr (6, zf 3 c3_6))]) hP hD [5, 6, 7, 8] [0, 1, 2, 3, 4, 9] rfl rfl (by decide) (by decide) hk1 hFc hP1 hD1
  generalize H1 = H at hP hS ⊢
  have hP : va_P D vwCl [(pr, .inl (x 9, 24, .inr (.inr (.inr (.inr gp))))), (wk, .inl (x 10, 6, .inr (.inr (.inr (.inr gw))))), (p0, .inr (5, zf 14 fp)), (co, .inr (6, zf 3 f4)), (ou, .inr (6, zf 3 f5)), (h0, .inr (2, zf 19 f0)), (w0, .inr (10, zf 20 c0_3)), (na, .inr (3, zf 9 c1_4)), (sc, .inr (7, zf 20 c2_5)), (lg, .inr (6, zf 3 c3_6))] H := hP
  have hD : va_D A [(pr, .inl (x 9, 24, .inr (.inr (.inr (.inr gp))))), (wk, .inl (x 10, 6, .inr (.inr (.inr (.inr gw))))), (p0, .inr (5, zf 14 fp)), (co, .inr (6, zf 3 f4)), (ou, .inr (6, zf 3 f5)), (h0, .inr (2, zf 19 f0)), (w0, .inr (10, zf 20 c0_3)), (na, .inr (3, zf 9 c1_4)), (sc, .inr (7, zf 20 c2_5)), (lg, .inr (6, zf 3 c3_6))] := hD
  refine W.widen (k := 0) (n := 0) (by omega) (by omega) ?_
  refine lv_aload_n hx hb dX2_create_97 rfl (lv_at hl 0 rfl) ?_
  refine lv_aload_n hx hb dX2_create_98 rfl (lv_at hl 3 rfl) ?_
  refine z_get (T := TX2) (N := 19) (ci := 2) hx hb hts (zi_2 _) hown hK hP 5 rfl rfl 4 (by decide) (hts _ (zm_288 _)) rfl h0_4 dX2_create_99 ?_
  refine lv_aload_n hx hb dX2_create_102 rfl (lv_at hl 1 rfl) ?_
  have hPc := hP.sub (ws' := [(p0, .inr (5, zf 14 fp)), (co, .inr (6, zf 3 f4)), (ou, .inr (6, zf 3 f5))]) [2, 3, 4] rfl
  have hDc := hD.sub (ws' := [(p0, .inr (5, zf 14 fp)), (co, .inr (6, zf 3 f4)), (ou, .inr (6, zf 3 f5))]) [2, 3, 4] (by decide) rfl
  have hFc := va_free (wc := [(p0, .inr (5, zf 14 fp)), (co, .inr (6, zf 3 f4)), (ou, .inr (6, zf 3 f5))]) hD hS hA [2, 3, 4] rfl
  have h_11 : 0 + 0 ≤ 0 ∧ 0 + 0 ≤ 0 := by omega
  refine va_callv (va_runVN (As := [.int 0, .ref w0]) (rest := []) ⟨hx, hb, hml, hown, hts⟩ (c_Proc_begin l D x w0 p0 fp co f4 ou f5 H.size h3_12 h3_13) ⟨va_cnB 2 hts (zgood (zm_349 _) rfl) rfl rfl rfl (hZ.2.1 _ zn_130) (hts _ (zm_66 _)) ⟨by decide, by decide, by decide +kernel⟩ ⟨Nat.le_of_ble_eq_true rfl, Nat.le_of_ble_eq_true rfl⟩, hts _ (zm_350 _), hts _ (zm_351 _)⟩ ⟨fun a U g mk q => by obtain ⟨q0, q1, qP, qK, qD⟩ := q; exact ⟨q0, q1, qP, ZK.calling (u := U) zN_ok rfl qK, qD⟩, va_recv hK hPc (ci := 5) (q0 := 0) rfl rfl, fun U hU hW => ⟨rfl, by rw [hU], by rw [hU]; exact hPc, ZK.warm zN_ok hW hZ, hDc.weaken (fun _ _ _ _ => trivial)⟩⟩ rfl rfl hl.1 rfl (lv_room (Nat.le_of_ble_eq_true rfl)) dX2_create_103 h_11) hS (fun q _ h => hFc q h) hFc (fun u t H1 locs ht hvm hw_10 hB hz1 hk1 hS => ?_)
  obtain ⟨c0_8, c1_9, c2_10⟩ := u
  obtain ⟨hP1, hD1⟩ := hB
  rw [ht] at hP1
  try dsimp only at hw_10
  obtain ⟨hP, hD⟩ := va_join (wr := [(pr, .inl (x 9, 24, .inr (.inr (.inr (.inr gp))))), (wk, .inl (x 10, 6, .inr (.inr (.inr (.inr gw))))), (h0, .inr (2, zf 19 f0)), (w0, .inr (10, zf 20 c0_3)), (na, .inr (3, zf 9 c1_4)), (sc, .inr (7, zf 20 c2_5)), (lg, .inr (6, zf 3 c3_6))]) (w1 := [(p0, .inr (5, zf 14 c0_8)), (co, .inr (6, zf 3 c1_9)), (ou, .inr (6, zf 3 c2_10))]) hP hD [2, 3, 4] [0, 1, 5, 6, 7, 8, 9] rfl rfl (by decide) (by decide) hk1 hFc hP1 hD1
  generalize H1 = H at hP hS ⊢
  have hP : va_P D vwCl [(pr, .inl (x 9, 24, .inr (.inr (.inr (.inr gp))))), (wk, .inl (x 10, 6, .inr (.inr (.inr (.inr gw))))), (h0, .inr (2, zf 19 f0)), (w0, .inr (10, zf 20 c0_3)), (na, .inr (3, zf 9 c1_4)), (sc, .inr (7, zf 20 c2_5)), (lg, .inr (6, zf 3 c3_6)), (p0, .inr (5, zf 14 c0_8)), (co, .inr (6, zf 3 c1_9)), (ou, .inr (6, zf 3 c2_10))] H := hP
  have hD : va_D A [(pr, .inl (x 9, 24, .inr (.inr (.inr (.inr gp))))), (wk, .inl (x 10, 6, .inr (.inr (.inr (.inr gw))))), (h0, .inr (2, zf 19 f0)), (w0, .inr (10, zf 20 c0_3)), (na, .inr (3, zf 9 c1_4)), (sc, .inr (7, zf 20 c2_5)), (lg, .inr (6, zf 3 c3_6)), (p0, .inr (5, zf 14 c0_8)), (co, .inr (6, zf 3 c1_9)), (ou, .inr (6, zf 3 c2_10))] := hD
  refine W.widen (k := 0) (n := 0) (by omega) (by omega) ?_
  refine lv_aload_n hx hb dX2_create_106 rfl (lv_at hl 3 rfl) ?_
  refine lv_dup hx hb dX2_create_107 rfl ?_
  refine z_get (T := TX2) (N := 19) (ci := 2) hx hb hts (zi_2 _) hown hK hP 2 rfl rfl 4 (by decide) (hts _ (zm_288 _)) rfl h0_4 dX2_create_108 ?_
  refine lv_iconst (v := 1) hx hb dX2_create_111 (by decide) ?_
  refine lv_iadd hx hb dX2_create_112 ?_
  refine lv_topi (fun y_13 ex_12 => ?_)
  obtain rfl : y_13 = 1 := ex_12.trans (by decide)
  refine z_put (T := TX2) (N := 19) (ci := 2) hx hb hts (zi_2 _) hown hK hP hD hS 2 rfl rfl 4 (by decide) (hts _ (zm_288 _)) rfl rfl rfl rfl dX2_create_113 (fun H locs f_14 ek_15 ok_16 hP hD hS => ?_)
  have hP : va_P D vwCl [(pr, .inl (x 9, 24, .inr (.inr (.inr (.inr gp))))), (wk, .inl (x 10, 6, .inr (.inr (.inr (.inr gw))))), (h0, .inr (2, zf 19 f_14)), (w0, .inr (10, zf 20 c0_3)), (na, .inr (3, zf 9 c1_4)), (sc, .inr (7, zf 20 c2_5)), (lg, .inr (6, zf 3 c3_6)), (p0, .inr (5, zf 14 c0_8)), (co, .inr (6, zf 3 c1_9)), (ou, .inr (6, zf 3 c2_10))] H := hP
  have hD : va_D A [(pr, .inl (x 9, 24, .inr (.inr (.inr (.inr gp))))), (wk, .inl (x 10, 6, .inr (.inr (.inr (.inr gw))))), (h0, .inr (2, zf 19 f_14)), (w0, .inr (10, zf 20 c0_3)), (na, .inr (3, zf 9 c1_4)), (sc, .inr (7, zf 20 c2_5)), (lg, .inr (6, zf 3 c3_6)), (p0, .inr (5, zf 14 c0_8)), (co, .inr (6, zf 3 c1_9)), (ou, .inr (6, zf 3 c2_10))] := hD
  refine lv_aload_n hx hb dX2_create_116 rfl (lv_at hl 0 rfl) ?_
  have hP9 := hP.sub (ws' := [(h0, .inr (2, zf 19 f_14)), (pr, .inl (x 9, 24, .inr (.inr (.inr (.inr gp))))), (wk, .inl (x 10, 6, .inr (.inr (.inr (.inr gw))))), (p0, .inr (5, zf 14 c0_8)), (co, .inr (6, zf 3 c1_9)), (ou, .inr (6, zf 3 c2_10)), (w0, .inr (10, zf 20 c0_3)), (na, .inr (3, zf 9 c1_4)), (sc, .inr (7, zf 20 c2_5)), (lg, .inr (6, zf 3 c3_6))]) [2, 0, 1, 7, 8, 9, 3, 4, 5, 6] rfl
  have hD9 := hD.sub (ws' := [(h0, .inr (2, zf 19 f_14)), (pr, .inl (x 9, 24, .inr (.inr (.inr (.inr gp))))), (wk, .inl (x 10, 6, .inr (.inr (.inr (.inr gw))))), (p0, .inr (5, zf 14 c0_8)), (co, .inr (6, zf 3 c1_9)), (ou, .inr (6, zf 3 c2_10)), (w0, .inr (10, zf 20 c0_3)), (na, .inr (3, zf 9 c1_4)), (sc, .inr (7, zf 20 c2_5)), (lg, .inr (6, zf 3 c3_6))]) [2, 0, 1, 7, 8, 9, 3, 4, 5, 6] (by decide) rfl
  exact W.aret (v := .ref p0) hx hb hr (Or.inl ⟨_, rfl⟩) (Or.inr ⟨_, rfl⟩) (fun t ht hW => ⟨⟨(f_14, c0_8, c1_9, c2_10, c0_3, c1_4, c2_5, c3_6), _, rfl, ⟨hw_10.1, hw_10.2, hw_6.1, hw_6.2.1, hw_6.2.2.1, hw_6.2.2.2.1, hw_6.2.2.2.2.1, hw_6.2.2.2.2.2.1, hw_6.2.2.2.2.2.2.1, hw_6.2.2.2.2.2.2.2.1, hw_6.2.2.2.2.2.2.2.2.1, hw_6.2.2.2.2.2.2.2.2.2.1, hw_6.2.2.2.2.2.2.2.2.2.2.1, hw_6.2.2.2.2.2.2.2.2.2.2.2⟩, ⟨rfl, ⟨by rw [ht]; exact hP9, hD9⟩⟩⟩, hS.F ht⟩) hS.2.2 dX2_create_117

set_option maxHeartbeats 8000000 in
set_option maxRecDepth 100000 in
/-- Work.levelAt(-1) -/
theorem c_levelAtN (l : Launch) (D : va_G) (x : Nat → ClassId) (h0 : Nat) (f0 : Nat → Value) (sz : Nat)  : Met l yX10_levelAt (.code yX10_levelAt cX10_levelAt 2 (some (.object "MumpsHouse$Level")) :: zW) ({ frames := 0, cells := (0), slots := (0), locals := 0 }) (va_Pc [.ref h0, .int (-1)] (fun U => U.heap.size = sz ∧ va_P D vwCl [(h0, .inr (10, zf 20 f0))] U.heap ∧ zK x D U ∧ va_D (fun _ => True) [(h0, .inr (10, zf 20 f0))])) (va_Qq (fun (r : Option Nat) (u : Unit) => r = none) (fun u t => zB D vwCl (va_A [(h0, .inr (10, zf 20 f0))] sz) [(h0, .inr (10, zf 20 f0))] t) (va_A [(h0, .inr (10, zf 20 f0))] sz)) (0) (0) (va_A [(h0, .inr (10, zf 20 f0))] sz) := by
  refine Met.ofW (cc := cX10_levelAt) (maxL := 2) (ret := (some (.object "MumpsHouse$Level"))) (by decide) rfl ?_
  intro p e s m args below meth c s₁ B hml hv
  obtain ⟨rfl, hsz, hP, hZ, hD0⟩ := hv
  have hK := hZ.1
  have hx := B.exec
  have hb := B.bytes
  have hr := B.returns
  have hts := atoms_spec (ws := .code yX10_levelAt cX10_levelAt 2 (some (.object "MumpsHouse$Level")) :: zW) B.pre
  have hown : s.vm.findClass RX10 = some m.cls := findClass_of_methodNamed B.named
  have hlocks := B.notSynchronized
  subst hsz
  have hD := hD0.self (sz := s.heap.size)
  generalize hAe : va_A [(h0, .inr (10, zf 20 f0))] s.heap.size = A at hD ⊢
  have hA : ∀ q : Nat, s.heap.size ≤ q → A q := fun q h => by rw [← hAe]; exact Or.inr h
  have hS : va_S A s.heap s.heap [] := va_S.rf
  have hP : va_P D vwCl [(h0, .inr (10, zf 20 f0))] s.heap := hP
  have hl := lv_entry ([.ref h0, .int (-1)]) (n := 2) (Nat.le_of_ble_eq_true rfl)
  rw [lg_entry_eq]
  generalize (lg_sl ([.ref h0, .int (-1)]) ++ List.replicate (2 - (lg_sl ([.ref h0, .int (-1)])).length) Slot.unset).toArray = ls at hl ⊢
  have hl : lv_has ls 2 [(0, .ref h0), (1, .int (-1))] := hl
  refine lv_iload_n hx hb dX10_levelAt_0 rfl (lv_at hl 1 rfl) ?_
  refine lv_if_lt (tgt := 30) hx hb dX10_levelAt_1 (by decide) (fun _ => ?_) (fun c9 => absurd (by decide) c9)
  refine lv_null hx hb dX10_levelAt_30 ?_
  refine W.widen (k := 0) (n := 0) (Nat.le_of_ble_eq_true rfl) (Nat.le_of_ble_eq_true rfl) ?_
  have hP9 := hP.sub (ws' := [(h0, .inr (10, zf 20 f0))]) [0] rfl
  have hD9 := hD.sub (ws' := [(h0, .inr (10, zf 20 f0))]) [0] (by decide) rfl
  exact W.aret (v := .null) hx hb hr (Or.inl ⟨_, rfl⟩) (Or.inl rfl) (fun t ht hW => ⟨⟨none, (), rfl, rfl, ⟨by rw [ht]; exact hP9, hD9⟩⟩, hS.F ht⟩) hS.2.2 dX10_levelAt_31

set_option maxHeartbeats 8000000 in
set_option maxRecDepth 100000 in
/-- Work.top where there is none -/
theorem c_top0 (l : Launch) (D : va_G) (x : Nat → ClassId) (h0 : Nat) (f0 : Nat → Value) (sz : Nat) (h0_5 : f0 5 = .int 0) : Met l yX10_top (.code yX10_top cX10_top 1 (some (.object "MumpsHouse$Level")) :: zW) ({ frames := 1, cells := (0), slots := (0), locals := 21 }) (va_Pc [.ref h0] (fun U => U.heap.size = sz ∧ va_P D vwCl [(h0, .inr (10, zf 20 f0))] U.heap ∧ zK x D U ∧ va_D (fun _ => True) [(h0, .inr (10, zf 20 f0))])) (va_Qq (fun (r : Option Nat) (u : Unit) => r = none) (fun u t => zB D vwCl (va_A [(h0, .inr (10, zf 20 f0))] sz) [(h0, .inr (10, zf 20 f0))] t) (va_A [(h0, .inr (10, zf 20 f0))] sz)) (0) (0) (va_A [(h0, .inr (10, zf 20 f0))] sz) := by
  refine Met.ofW (cc := cX10_top) (maxL := 1) (ret := (some (.object "MumpsHouse$Level"))) (by decide) rfl ?_
  intro p e s m args below meth c s₁ B hml hv
  obtain ⟨rfl, hsz, hP, hZ, hD0⟩ := hv
  have hK := hZ.1
  have hx := B.exec
  have hb := B.bytes
  have hr := B.returns
  have hts := atoms_spec (ws := .code yX10_top cX10_top 1 (some (.object "MumpsHouse$Level")) :: zW) B.pre
  have hown : s.vm.findClass RX10 = some m.cls := findClass_of_methodNamed B.named
  have hlocks := B.notSynchronized
  subst hsz
  have hD := hD0.self (sz := s.heap.size)
  generalize hAe : va_A [(h0, .inr (10, zf 20 f0))] s.heap.size = A at hD ⊢
  have hA : ∀ q : Nat, s.heap.size ≤ q → A q := fun q h => by rw [← hAe]; exact Or.inr h
  have hS : va_S A s.heap s.heap [] := va_S.rf
  have hP : va_P D vwCl [(h0, .inr (10, zf 20 f0))] s.heap := hP
  have hl := lv_entry ([.ref h0]) (n := 1) (Nat.le_of_ble_eq_true rfl)
  rw [lg_entry_eq]
  generalize (lg_sl ([.ref h0]) ++ List.replicate (1 - (lg_sl ([.ref h0])).length) Slot.unset).toArray = ls at hl ⊢
  have hl : lv_has ls 1 [(0, .ref h0)] := hl
  refine lv_aload_n hx hb dX10_top_0 rfl (lv_at hl 0 rfl) ?_
  refine lv_aload_n hx hb dX10_top_1 rfl (lv_at hl 0 rfl) ?_
  refine z_get (T := TX10) (N := 20) (ci := 10) hx hb hts (zi_10 _) hown hK hP 0 rfl rfl 5 (by decide) (hts _ (zm_322 _)) rfl h0_5 dX10_top_2 ?_
  refine lv_iconst (v := 1) hx hb dX10_top_5 (by decide) ?_
  refine lv_isub hx hb dX10_top_6 ?_
  refine lv_topi (fun y_2 ex_1 => ?_)
  obtain rfl : y_2 = (-1) := ex_1.trans (by decide)
  have hPc := hP.sub (ws' := [(h0, .inr (10, zf 20 f0))]) [0] rfl
  have hDc := hD.sub (ws' := [(h0, .inr (10, zf 20 f0))]) [0] (by decide) rfl
  have hFc := va_free (wc := [(h0, .inr (10, zf 20 f0))]) hD hS hA [0] rfl
  have h_4 : 0 + 0 ≤ 0 ∧ 0 + 0 ≤ 0 := by omega
  refine va_callq (va_runV (As := [.int (-1)]) (rest := []) ⟨hx, hb, hml, hown, hts⟩ (c_levelAtN l D x h0 f0 s.heap.size) ⟨callB_of 1 hts (zgood (zm_374 _) rfl) rfl rfl rfl (hts _ (zm_92 _)) (hts _ (zm_373 _)) ⟨by decide, by decide, by decide +kernel⟩ ⟨Nat.le_of_ble_eq_true rfl, Nat.le_of_ble_eq_true rfl⟩, hts _ (zm_375 _), hts _ (zm_376 _)⟩ ⟨fun a U g mk q => by obtain ⟨q0, q1, qP, qK, qD⟩ := q; exact ⟨q0, q1, qP, ZK.calling (u := U) zN_ok rfl qK, qD⟩, va_recv hK hPc (ci := 10) (q0 := 0) rfl rfl, fun U hU hW => ⟨rfl, by rw [hU], by rw [hU]; exact hPc, ZK.warm zN_ok hW hZ, hDc.weaken (fun _ _ _ _ => trivial)⟩⟩ rfl rfl hl.1 rfl (lv_room (Nat.le_of_ble_eq_true rfl)) dX10_top_7 h_4) hS (fun q _ h => hFc q h) hFc (fun r_3 u t H1 locs ht hvm hw_3 hB hz1 hk1 hS => ?_)
  obtain ⟨hP1, hD1⟩ := hB
  rw [ht] at hP1
  try dsimp only at hw_3
  obtain ⟨hP, hD⟩ := va_join (wr := []) (w1 := [(h0, .inr (10, zf 20 f0))]) hP hD [0] [] rfl rfl (by decide) (by decide) hk1 hFc hP1 hD1
  generalize H1 = H at hP hS ⊢
  have hP : va_P D vwCl [(h0, .inr (10, zf 20 f0))] H := hP
  have hD : va_D A [(h0, .inr (10, zf 20 f0))] := hD
  refine W.widen (k := 0) (n := 0) (by omega) (by omega) ?_
  obtain rfl : r_3 = none := hw_3
  refine W.widen (k := 0) (n := 0) (Nat.le_of_ble_eq_true rfl) (Nat.le_of_ble_eq_true rfl) ?_
  have hP9 := hP.sub (ws' := [(h0, .inr (10, zf 20 f0))]) [0] rfl
  have hD9 := hD.sub (ws' := [(h0, .inr (10, zf 20 f0))]) [0] (by decide) rfl
  exact W.aret (v := .null) hx hb hr (Or.inl ⟨_, rfl⟩) (Or.inl rfl) (fun t ht hW => ⟨⟨none, (), rfl, rfl, ⟨by rw [ht]; exact hP9, hD9⟩⟩, hS.F ht⟩) hS.2.2 dX10_top_10

set_option maxHeartbeats 8000000 in
set_option maxRecDepth 100000 in
/-- Work.pushLevel(2, 0), the first -/
theorem c_pushLevel0 (l : Launch) (D : va_G) (x : Nat → ClassId) (h0 : Nat) (f0 : Nat → Value) (lv : Nat) (gl : Nat → Option Nat) (sc : Nat) (f1 : Nat → Value) (l0 : Nat) (f2 : Nat → Value) (tr : Nat) (f3 : Nat → Value) (ow : Nat) (sz : Nat) (h0_5 : f0 5 = .int 0) (h0_1 : f0 1 = .int 0) (h0_3 : f0 3 = .int 0) (h0_7 : f0 7 = .int 0) (h0_12 : f0 12 = .int 0) (h0_14 : f0 14 = .int 0) (h0_13 : f0 13 = .null) (h0_4 : f0 4 = .ref lv) (h0_18 : f0 18 = .ref sc) (h1_0 : gl 0 = some l0) (h2_5 : f1 5 = .int 0) (h3_12 : f2 12 = .ref tr) (h3_14 : f2 14 = .ref ow) : Met l yX10_pushLevel (.code yX10_pushLevel cX10_pushLevel 5 (some (.object "MumpsHouse$Level")) :: zW) ({ frames := 2, cells := (0), slots := (0), locals := 41 }) (va_Pc [.ref h0, .int 2, .int 0] (fun U => U.heap.size = sz ∧ va_P D vwCl [(h0, .inr (10, zf 20 f0)), (lv, .inl (x 7, 30, .inr (.inr (.inr (.inr gl))))), (sc, .inr (7, zf 20 f1)), (l0, .inr (1, zf 16 f2)), (tr, .inr (6, zf 3 f3))] U.heap ∧ zK x D U ∧ va_D (fun _ => True) [(h0, .inr (10, zf 20 f0)), (lv, .inl (x 7, 30, .inr (.inr (.inr (.inr gl))))), (sc, .inr (7, zf 20 f1)), (l0, .inr (1, zf 16 f2)), (tr, .inr (6, zf 3 f3))])) (va_Qr (fun u : (Nat → Value) × (Nat → Value) × (Nat → Value) => match u with | (c0, c3, c4) => c3 14 = .ref ow ∧ c3 12 = .ref tr) (fun u ra t => match u with | (c0, c3, c4) => l0 = ra ∧ zB D vwCl (va_A [(h0, .inr (10, zf 20 f0)), (lv, .inl (x 7, 30, .inr (.inr (.inr (.inr gl))))), (sc, .inr (7, zf 20 f1)), (l0, .inr (1, zf 16 f2)), (tr, .inr (6, zf 3 f3))] sz) [(h0, .inr (10, zf 20 c0)), (lv, .inl (x 7, 30, .inr (.inr (.inr (.inr gl))))), (sc, .inr (7, zf 20 f1)), (l0, .inr (1, zf 16 c3)), (tr, .inr (6, zf 3 c4))] t) (va_A [(h0, .inr (10, zf 20 f0)), (lv, .inl (x 7, 30, .inr (.inr (.inr (.inr gl))))), (sc, .inr (7, zf 20 f1)), (l0, .inr (1, zf 16 f2)), (tr, .inr (6, zf 3 f3))] sz)) (0) (0) (va_A [(h0, .inr (10, zf 20 f0)), (lv, .inl (x 7, 30, .inr (.inr (.inr (.inr gl))))), (sc, .inr (7, zf 20 f1)), (l0, .inr (1, zf 16 f2)), (tr, .inr (6, zf 3 f3))] sz) := by
  refine Met.ofW (cc := cX10_pushLevel) (maxL := 5) (ret := (some (.object "MumpsHouse$Level"))) (by decide) rfl ?_
  intro p e s m args below meth c s₁ B hml hv
  obtain ⟨rfl, hsz, hP, hZ, hD0⟩ := hv
  have hK := hZ.1
  have hx := B.exec
  have hb := B.bytes
  have hr := B.returns
  have hts := atoms_spec (ws := .code yX10_pushLevel cX10_pushLevel 5 (some (.object "MumpsHouse$Level")) :: zW) B.pre
  have hown : s.vm.findClass RX10 = some m.cls := findClass_of_methodNamed B.named
  have hlocks := B.notSynchronized
  subst hsz
  have hD := hD0.self (sz := s.heap.size)
  generalize hAe : va_A [(h0, .inr (10, zf 20 f0)), (lv, .inl (x 7, 30, .inr (.inr (.inr (.inr gl))))), (sc, .inr (7, zf 20 f1)), (l0, .inr (1, zf 16 f2)), (tr, .inr (6, zf 3 f3))] s.heap.size = A at hD ⊢
  have hA : ∀ q : Nat, s.heap.size ≤ q → A q := fun q h => by rw [← hAe]; exact Or.inr h
  have hS : va_S A s.heap s.heap [] := va_S.rf
  have hP : va_P D vwCl [(h0, .inr (10, zf 20 f0)), (lv, .inl (x 7, 30, .inr (.inr (.inr (.inr gl))))), (sc, .inr (7, zf 20 f1)), (l0, .inr (1, zf 16 f2)), (tr, .inr (6, zf 3 f3))] s.heap := hP
  have hl := lv_entry ([.ref h0, .int 2, .int 0]) (n := 5) (Nat.le_of_ble_eq_true rfl)
  rw [lg_entry_eq]
  generalize (lg_sl ([.ref h0, .int 2, .int 0]) ++ List.replicate (5 - (lg_sl ([.ref h0, .int 2, .int 0])).length) Slot.unset).toArray = ls at hl ⊢
  have hl : lv_has ls 5 [(0, .ref h0), (1, .int 2), (2, .int 0)] := hl
  refine lv_aload_n hx hb dX10_pushLevel_0 rfl (lv_at hl 0 rfl) ?_
  refine z_get (T := TX10) (N := 20) (ci := 10) hx hb hts (zi_10 _) hown hK hP 0 rfl rfl 5 (by decide) (hts _ (zm_322 _)) rfl h0_5 dX10_pushLevel_1 ?_
  refine lv_if_lt (tgt := 19) hx hb dX10_pushLevel_4 (by decide) (fun c9 => absurd c9 (by decide)) (fun _ => ?_)
  refine lv_aload_n hx hb dX10_pushLevel_7 rfl (lv_at hl 0 rfl) ?_
  refine z_get (T := TX10) (N := 20) (ci := 10) hx hb hts (zi_10 _) hown hK hP 0 rfl rfl 5 (by decide) (hts _ (zm_322 _)) rfl h0_5 dX10_pushLevel_8 ?_
  refine lv_aload_n hx hb dX10_pushLevel_11 rfl (lv_at hl 0 rfl) ?_
  refine z_get (T := TX10) (N := 20) (ci := 10) hx hb hts (zi_10 _) hown hK hP 0 rfl rfl 4 (by decide) (hts _ (zm_97 _)) rfl h0_4 dX10_pushLevel_12 ?_
  refine va_alen (v := 30) hx hb hK hP 1 7 rfl rfl rfl dX10_pushLevel_15 ?_
  refine lv_icmp_lt (tgt := 21) hx hb dX10_pushLevel_16 (by decide) (fun _ => ?_) (fun c9 => absurd (by decide) c9)
  refine lv_aload_n hx hb dX10_pushLevel_21 rfl (lv_at hl 0 rfl) ?_
  refine z_get (T := TX10) (N := 20) (ci := 10) hx hb hts (zi_10 _) hown hK hP 0 rfl rfl 4 (by decide) (hts _ (zm_97 _)) rfl h0_4 dX10_pushLevel_22 ?_
  refine lv_aload_n hx hb dX10_pushLevel_25 rfl (lv_at hl 0 rfl) ?_
  refine z_get (T := TX10) (N := 20) (ci := 10) hx hb hts (zi_10 _) hown hK hP 0 rfl rfl 5 (by decide) (hts _ (zm_322 _)) rfl h0_5 dX10_pushLevel_26 ?_
  refine z_aldq hx hb hK hP 1 7 rfl rfl (z_in (by decide)) h1_0 dX10_pushLevel_29 ?_
  refine lv_astore_n (lv' := [(3, .ref l0), (0, .ref h0), (1, .int 2), (2, .int 0)]) hx hb dX10_pushLevel_30 rfl hl (by decide) rfl (fun ls hl => ?_)
  refine lv_aload_n hx hb dX10_pushLevel_31 rfl (lv_at hl 1 rfl) ?_
  have hPc := hP.sub (ws' := [(h0, .inr (10, zf 20 f0))]) [0] rfl
  have hDc := hD.sub (ws' := [(h0, .inr (10, zf 20 f0))]) [0] (by decide) rfl
  have hFc := va_free (wc := [(h0, .inr (10, zf 20 f0))]) hD hS hA [0] rfl
  have h_2 : 0 + 0 ≤ 0 ∧ 0 + 0 ≤ 0 := by omega
  refine va_callq (va_runV (As := []) (rest := []) ⟨hx, hb, hml, hown, hts⟩ (c_top0 l D x h0 f0 s.heap.size h0_5) ⟨callB_of 0 hts (zgood (zm_370 _) rfl) rfl rfl rfl (hts _ (zm_92 _)) (hts _ (zm_367 _)) ⟨by decide, by decide, by decide +kernel⟩ ⟨Nat.le_of_ble_eq_true rfl, Nat.le_of_ble_eq_true rfl⟩, hts _ (zm_371 _), hts _ (zm_372 _)⟩ ⟨fun a U g mk q => by obtain ⟨q0, q1, qP, qK, qD⟩ := q; exact ⟨q0, q1, qP, ZK.calling (u := U) zN_ok rfl qK, qD⟩, va_recv hK hPc (ci := 10) (q0 := 0) rfl rfl, fun U hU hW => ⟨rfl, by rw [hU], by rw [hU]; exact hPc, ZK.warm zN_ok hW hZ, hDc.weaken (fun _ _ _ _ => trivial)⟩⟩ rfl rfl hl.1 rfl (lv_room (Nat.le_of_ble_eq_true rfl)) dX10_pushLevel_32 h_2) hS (fun q _ h => hFc q h) hFc (fun r_1 u t H1 locs ht hvm hw_1 hB hz1 hk1 hS => ?_)
  obtain ⟨hP1, hD1⟩ := hB
  rw [ht] at hP1
  try dsimp only at hw_1
  obtain ⟨hP, hD⟩ := va_join (wr := [(lv, .inl (x 7, 30, .inr (.inr (.inr (.inr gl))))), (sc, .inr (7, zf 20 f1)), (l0, .inr (1, zf 16 f2)), (tr, .inr (6, zf 3 f3))]) (w1 := [(h0, .inr (10, zf 20 f0))]) hP hD [0] [1, 2, 3, 4] rfl rfl (by decide) (by decide) hk1 hFc hP1 hD1
  generalize H1 = H at hP hS ⊢
  have hP : va_P D vwCl [(lv, .inl (x 7, 30, .inr (.inr (.inr (.inr gl))))), (sc, .inr (7, zf 20 f1)), (l0, .inr (1, zf 16 f2)), (tr, .inr (6, zf 3 f3)), (h0, .inr (10, zf 20 f0))] H := hP
  have hD : va_D A [(lv, .inl (x 7, 30, .inr (.inr (.inr (.inr gl))))), (sc, .inr (7, zf 20 f1)), (l0, .inr (1, zf 16 f2)), (tr, .inr (6, zf 3 f3)), (h0, .inr (10, zf 20 f0))] := hD
  refine W.widen (k := 0) (n := 0) (by omega) (by omega) ?_
  obtain rfl : r_1 = none := hw_1
  refine lv_astoreN (lv' := [(4, .null), (3, .ref l0), (0, .ref h0), (1, .int 2), (2, .int 0)]) hx hb dX10_pushLevel_35 hl (by decide) rfl (fun ls hl => ?_)
  refine lv_aload_n hx hb dX10_pushLevel_37 rfl (lv_at hl 1 rfl) ?_
  refine lv_ifnonnull (tgt := 43) hx hb dX10_pushLevel_38 (by decide) ?_
  refine lv_aload_n hx hb dX10_pushLevel_43 rfl (lv_at hl 1 rfl) ?_
  refine lv_iload_n hx hb dX10_pushLevel_44 rfl (lv_at hl 3 rfl) ?_
  refine z_putN (T := TX1) (N := 16) (ci := 1) hx hb hts (zi_1 _) hown hK hP hD hS 2 rfl rfl 0 (by decide) (hZ.2.1 _ zn_143) rfl rfl rfl rfl dX10_pushLevel_45 (fun H locs f_3 ek_4 ok_5 hP hD hS => ?_)
  have hP : va_P D vwCl [(lv, .inl (x 7, 30, .inr (.inr (.inr (.inr gl))))), (sc, .inr (7, zf 20 f1)), (l0, .inr (1, zf 16 f_3)), (tr, .inr (6, zf 3 f3)), (h0, .inr (10, zf 20 f0))] H := hP
  have hD : va_D A [(lv, .inl (x 7, 30, .inr (.inr (.inr (.inr gl))))), (sc, .inr (7, zf 20 f1)), (l0, .inr (1, zf 16 f_3)), (tr, .inr (6, zf 3 f3)), (h0, .inr (10, zf 20 f0))] := hD
  refine lv_aload_n hx hb dX10_pushLevel_48 rfl (lv_at hl 1 rfl) ?_
  refine lv_aload_n hx hb dX10_pushLevel_49 rfl (lv_at hl 2 rfl) ?_
  refine z_get (T := TX10) (N := 20) (ci := 10) hx hb hts (zi_10 _) hown hK hP 4 rfl rfl 13 (by decide) (hts _ (zm_368 _)) rfl h0_13 dX10_pushLevel_50 ?_
  refine z_putN (T := TX1) (N := 16) (ci := 1) hx hb hts (zi_1 _) hown hK hP hD hS 2 rfl rfl 1 (by decide) (hZ.2.1 _ zn_144) rfl rfl rfl rfl dX10_pushLevel_53 (fun H locs f_6 ek_7 ok_8 hP hD hS => ?_)
  have hP : va_P D vwCl [(lv, .inl (x 7, 30, .inr (.inr (.inr (.inr gl))))), (sc, .inr (7, zf 20 f1)), (l0, .inr (1, zf 16 f_6)), (tr, .inr (6, zf 3 f3)), (h0, .inr (10, zf 20 f0))] H := hP
  have hD : va_D A [(lv, .inl (x 7, 30, .inr (.inr (.inr (.inr gl))))), (sc, .inr (7, zf 20 f1)), (l0, .inr (1, zf 16 f_6)), (tr, .inr (6, zf 3 f3)), (h0, .inr (10, zf 20 f0))] := hD
  refine lv_aload_n hx hb dX10_pushLevel_56 rfl (lv_at hl 1 rfl) ?_
  refine lv_iconst (v := 0) hx hb dX10_pushLevel_57 (by decide) ?_
  refine z_putN (T := TX1) (N := 16) (ci := 1) hx hb hts (zi_1 _) hown hK hP hD hS 2 rfl rfl 2 (by decide) (hZ.2.1 _ zn_145) rfl rfl rfl rfl dX10_pushLevel_58 (fun H locs f_9 ek_10 ok_11 hP hD hS => ?_)
  have hP : va_P D vwCl [(lv, .inl (x 7, 30, .inr (.inr (.inr (.inr gl))))), (sc, .inr (7, zf 20 f1)), (l0, .inr (1, zf 16 f_9)), (tr, .inr (6, zf 3 f3)), (h0, .inr (10, zf 20 f0))] H := hP
  have hD : va_D A [(lv, .inl (x 7, 30, .inr (.inr (.inr (.inr gl))))), (sc, .inr (7, zf 20 f1)), (l0, .inr (1, zf 16 f_9)), (tr, .inr (6, zf 3 f3)), (h0, .inr (10, zf 20 f0))] := hD
  refine lv_aload_n hx hb dX10_pushLevel_61 rfl (lv_at hl 1 rfl) ?_
  refine lv_iconst (v := 1) hx hb dX10_pushLevel_62 (by decide) ?_
  refine z_putN (T := TX1) (N := 16) (ci := 1) hx hb hts (zi_1 _) hown hK hP hD hS 2 rfl rfl 3 (by decide) (hZ.2.1 _ zn_146) rfl rfl rfl rfl dX10_pushLevel_63 (fun H locs f_12 ek_13 ok_14 hP hD hS => ?_)
  have hP : va_P D vwCl [(lv, .inl (x 7, 30, .inr (.inr (.inr (.inr gl))))), (sc, .inr (7, zf 20 f1)), (l0, .inr (1, zf 16 f_12)), (tr, .inr (6, zf 3 f3)), (h0, .inr (10, zf 20 f0))] H := hP
  have hD : va_D A [(lv, .inl (x 7, 30, .inr (.inr (.inr (.inr gl))))), (sc, .inr (7, zf 20 f1)), (l0, .inr (1, zf 16 f_12)), (tr, .inr (6, zf 3 f3)), (h0, .inr (10, zf 20 f0))] := hD
  refine lv_aload_n hx hb dX10_pushLevel_66 rfl (lv_at hl 1 rfl) ?_
  refine lv_iload_n hx hb dX10_pushLevel_67 rfl (lv_at hl 4 rfl) ?_
  refine z_putN (T := TX1) (N := 16) (ci := 1) hx hb hts (zi_1 _) hown hK hP hD hS 2 rfl rfl 4 (by decide) (hZ.2.1 _ zn_147) rfl rfl rfl rfl dX10_pushLevel_68 (fun H locs f_15 ek_16 ok_17 hP hD hS => ?_)
  have hP : va_P D vwCl [(lv, .inl (x 7, 30, .inr (.inr (.inr (.inr gl))))), (sc, .inr (7, zf 20 f1)), (l0, .inr (1, zf 16 f_15)), (tr, .inr (6, zf 3 f3)), (h0, .inr (10, zf 20 f0))] H := hP
  have hD : va_D A [(lv, .inl (x 7, 30, .inr (.inr (.inr (.inr gl))))), (sc, .inr (7, zf 20 f1)), (l0, .inr (1, zf 16 f_15)), (tr, .inr (6, zf 3 f3)), (h0, .inr (10, zf 20 f0))] := hD
  refine lv_aload_n hx hb dX10_pushLevel_71 rfl (lv_at hl 1 rfl) ?_
  refine lv_aload_n hx hb dX10_pushLevel_72 rfl (lv_at hl 2 rfl) ?_
  refine z_get (T := TX10) (N := 20) (ci := 10) hx hb hts (zi_10 _) hown hK hP 4 rfl rfl 1 (by decide) (hts _ (zm_320 _)) rfl h0_1 dX10_pushLevel_73 ?_
  refine z_putN (T := TX1) (N := 16) (ci := 1) hx hb hts (zi_1 _) hown hK hP hD hS 2 rfl rfl 5 (by decide) (hZ.2.1 _ zn_148) rfl rfl rfl rfl dX10_pushLevel_76 (fun H locs f_18 ek_19 ok_20 hP hD hS => ?_)
  have hP : va_P D vwCl [(lv, .inl (x 7, 30, .inr (.inr (.inr (.inr gl))))), (sc, .inr (7, zf 20 f1)), (l0, .inr (1, zf 16 f_18)), (tr, .inr (6, zf 3 f3)), (h0, .inr (10, zf 20 f0))] H := hP
  have hD : va_D A [(lv, .inl (x 7, 30, .inr (.inr (.inr (.inr gl))))), (sc, .inr (7, zf 20 f1)), (l0, .inr (1, zf 16 f_18)), (tr, .inr (6, zf 3 f3)), (h0, .inr (10, zf 20 f0))] := hD
  refine lv_aload_n hx hb dX10_pushLevel_79 rfl (lv_at hl 1 rfl) ?_
  refine lv_aload_n hx hb dX10_pushLevel_80 rfl (lv_at hl 2 rfl) ?_
  refine z_get (T := TX10) (N := 20) (ci := 10) hx hb hts (zi_10 _) hown hK hP 4 rfl rfl 3 (by decide) (hts _ (zm_321 _)) rfl h0_3 dX10_pushLevel_81 ?_
  refine z_putN (T := TX1) (N := 16) (ci := 1) hx hb hts (zi_1 _) hown hK hP hD hS 2 rfl rfl 6 (by decide) (hZ.2.1 _ zn_149) rfl rfl rfl rfl dX10_pushLevel_84 (fun H locs f_21 ek_22 ok_23 hP hD hS => ?_)
  have hP : va_P D vwCl [(lv, .inl (x 7, 30, .inr (.inr (.inr (.inr gl))))), (sc, .inr (7, zf 20 f1)), (l0, .inr (1, zf 16 f_21)), (tr, .inr (6, zf 3 f3)), (h0, .inr (10, zf 20 f0))] H := hP
  have hD : va_D A [(lv, .inl (x 7, 30, .inr (.inr (.inr (.inr gl))))), (sc, .inr (7, zf 20 f1)), (l0, .inr (1, zf 16 f_21)), (tr, .inr (6, zf 3 f3)), (h0, .inr (10, zf 20 f0))] := hD
  refine lv_aload_n hx hb dX10_pushLevel_87 rfl (lv_at hl 1 rfl) ?_
  refine lv_aload_n hx hb dX10_pushLevel_88 rfl (lv_at hl 2 rfl) ?_
  refine z_get (T := TX10) (N := 20) (ci := 10) hx hb hts (zi_10 _) hown hK hP 4 rfl rfl 7 (by decide) (hts _ (zm_323 _)) rfl h0_7 dX10_pushLevel_89 ?_
  refine z_putN (T := TX1) (N := 16) (ci := 1) hx hb hts (zi_1 _) hown hK hP hD hS 2 rfl rfl 7 (by decide) (hZ.2.1 _ zn_150) rfl rfl rfl rfl dX10_pushLevel_92 (fun H locs f_24 ek_25 ok_26 hP hD hS => ?_)
  have hP : va_P D vwCl [(lv, .inl (x 7, 30, .inr (.inr (.inr (.inr gl))))), (sc, .inr (7, zf 20 f1)), (l0, .inr (1, zf 16 f_24)), (tr, .inr (6, zf 3 f3)), (h0, .inr (10, zf 20 f0))] H := hP
  have hD : va_D A [(lv, .inl (x 7, 30, .inr (.inr (.inr (.inr gl))))), (sc, .inr (7, zf 20 f1)), (l0, .inr (1, zf 16 f_24)), (tr, .inr (6, zf 3 f3)), (h0, .inr (10, zf 20 f0))] := hD
  refine lv_aload_n hx hb dX10_pushLevel_95 rfl (lv_at hl 1 rfl) ?_
  refine lv_aload_n hx hb dX10_pushLevel_96 rfl (lv_at hl 2 rfl) ?_
  refine z_get (T := TX10) (N := 20) (ci := 10) hx hb hts (zi_10 _) hown hK hP 4 rfl rfl 12 (by decide) (hts _ (zm_324 _)) rfl h0_12 dX10_pushLevel_97 ?_
  refine z_putN (T := TX1) (N := 16) (ci := 1) hx hb hts (zi_1 _) hown hK hP hD hS 2 rfl rfl 8 (by decide) (hZ.2.1 _ zn_151) rfl rfl rfl rfl dX10_pushLevel_100 (fun H locs f_27 ek_28 ok_29 hP hD hS => ?_)
  have hP : va_P D vwCl [(lv, .inl (x 7, 30, .inr (.inr (.inr (.inr gl))))), (sc, .inr (7, zf 20 f1)), (l0, .inr (1, zf 16 f_27)), (tr, .inr (6, zf 3 f3)), (h0, .inr (10, zf 20 f0))] H := hP
  have hD : va_D A [(lv, .inl (x 7, 30, .inr (.inr (.inr (.inr gl))))), (sc, .inr (7, zf 20 f1)), (l0, .inr (1, zf 16 f_27)), (tr, .inr (6, zf 3 f3)), (h0, .inr (10, zf 20 f0))] := hD
  refine lv_aload_n hx hb dX10_pushLevel_103 rfl (lv_at hl 1 rfl) ?_
  refine lv_aload_n hx hb dX10_pushLevel_104 rfl (lv_at hl 2 rfl) ?_
  refine z_get (T := TX10) (N := 20) (ci := 10) hx hb hts (zi_10 _) hown hK hP 4 rfl rfl 18 (by decide) (hts _ (zm_107 _)) rfl h0_18 dX10_pushLevel_105 ?_
  refine z_getN (T := TX7) (N := 20) (ci := 7) hx hb hts (zi_7 _) hown hK hP 1 rfl rfl 5 (by decide) (hZ.2.1 _ zn_152) rfl h2_5 dX10_pushLevel_108 ?_
  refine z_putN (T := TX1) (N := 16) (ci := 1) hx hb hts (zi_1 _) hown hK hP hD hS 2 rfl rfl 9 (by decide) (hZ.2.1 _ zn_153) rfl rfl rfl rfl dX10_pushLevel_111 (fun H locs f_30 ek_31 ok_32 hP hD hS => ?_)
  have hP : va_P D vwCl [(lv, .inl (x 7, 30, .inr (.inr (.inr (.inr gl))))), (sc, .inr (7, zf 20 f1)), (l0, .inr (1, zf 16 f_30)), (tr, .inr (6, zf 3 f3)), (h0, .inr (10, zf 20 f0))] H := hP
  have hD : va_D A [(lv, .inl (x 7, 30, .inr (.inr (.inr (.inr gl))))), (sc, .inr (7, zf 20 f1)), (l0, .inr (1, zf 16 f_30)), (tr, .inr (6, zf 3 f3)), (h0, .inr (10, zf 20 f0))] := hD
  refine lv_aload_n hx hb dX10_pushLevel_114 rfl (lv_at hl 1 rfl) ?_
  refine lv_aload_n hx hb dX10_pushLevel_115 rfl (lv_at hl 2 rfl) ?_
  refine z_get (T := TX10) (N := 20) (ci := 10) hx hb hts (zi_10 _) hown hK hP 4 rfl rfl 13 (by decide) (hts _ (zm_368 _)) rfl h0_13 dX10_pushLevel_116 ?_
  refine z_putN (T := TX1) (N := 16) (ci := 1) hx hb hts (zi_1 _) hown hK hP hD hS 2 rfl rfl 10 (by decide) (hZ.2.1 _ zn_154) rfl rfl rfl rfl dX10_pushLevel_119 (fun H locs f_33 ek_34 ok_35 hP hD hS => ?_)
  have hP : va_P D vwCl [(lv, .inl (x 7, 30, .inr (.inr (.inr (.inr gl))))), (sc, .inr (7, zf 20 f1)), (l0, .inr (1, zf 16 f_33)), (tr, .inr (6, zf 3 f3)), (h0, .inr (10, zf 20 f0))] H := hP
  have hD : va_D A [(lv, .inl (x 7, 30, .inr (.inr (.inr (.inr gl))))), (sc, .inr (7, zf 20 f1)), (l0, .inr (1, zf 16 f_33)), (tr, .inr (6, zf 3 f3)), (h0, .inr (10, zf 20 f0))] := hD
  refine lv_aload_n hx hb dX10_pushLevel_122 rfl (lv_at hl 1 rfl) ?_
  refine lv_aload_n hx hb dX10_pushLevel_123 rfl (lv_at hl 2 rfl) ?_
  refine z_get (T := TX10) (N := 20) (ci := 10) hx hb hts (zi_10 _) hown hK hP 4 rfl rfl 14 (by decide) (hts _ (zm_369 _)) rfl h0_14 dX10_pushLevel_124 ?_
  refine z_putN (T := TX1) (N := 16) (ci := 1) hx hb hts (zi_1 _) hown hK hP hD hS 2 rfl rfl 11 (by decide) (hZ.2.1 _ zn_155) rfl rfl rfl rfl dX10_pushLevel_127 (fun H locs f_36 ek_37 ok_38 hP hD hS => ?_)
  have hP : va_P D vwCl [(lv, .inl (x 7, 30, .inr (.inr (.inr (.inr gl))))), (sc, .inr (7, zf 20 f1)), (l0, .inr (1, zf 16 f_36)), (tr, .inr (6, zf 3 f3)), (h0, .inr (10, zf 20 f0))] H := hP
  have hD : va_D A [(lv, .inl (x 7, 30, .inr (.inr (.inr (.inr gl))))), (sc, .inr (7, zf 20 f1)), (l0, .inr (1, zf 16 f_36)), (tr, .inr (6, zf 3 f3)), (h0, .inr (10, zf 20 f0))] := hD
  refine lv_aload_n hx hb dX10_pushLevel_130 rfl (lv_at hl 1 rfl) ?_
  refine lv_iconst (v := 0) hx hb dX10_pushLevel_131 (by decide) ?_
  refine z_putN (T := TX1) (N := 16) (ci := 1) hx hb hts (zi_1 _) hown hK hP hD hS 2 rfl rfl 13 (by decide) (hZ.2.1 _ zn_156) rfl rfl (by decide) rfl dX10_pushLevel_132 (fun H locs f_39 ek_40 ok_41 hP hD hS => ?_)
  have hP : va_P D vwCl [(lv, .inl (x 7, 30, .inr (.inr (.inr (.inr gl))))), (sc, .inr (7, zf 20 f1)), (l0, .inr (1, zf 16 f_39)), (tr, .inr (6, zf 3 f3)), (h0, .inr (10, zf 20 f0))] H := hP
  have hD : va_D A [(lv, .inl (x 7, 30, .inr (.inr (.inr (.inr gl))))), (sc, .inr (7, zf 20 f1)), (l0, .inr (1, zf 16 f_39)), (tr, .inr (6, zf 3 f3)), (h0, .inr (10, zf 20 f0))] := hD
  refine lv_aload_n hx hb dX10_pushLevel_135 rfl (lv_at hl 1 rfl) ?_
  have e_42 : f_39 12 = .ref tr := ((ok_41 12 (by decide)).trans ((ok_38 12 (by decide)).trans ((ok_35 12 (by decide)).trans ((ok_32 12 (by decide)).trans ((ok_29 12 (by decide)).trans ((ok_26 12 (by decide)).trans ((ok_23 12 (by decide)).trans ((ok_20 12 (by decide)).trans ((ok_17 12 (by decide)).trans ((ok_14 12 (by decide)).trans ((ok_11 12 (by decide)).trans ((ok_8 12 (by decide)).trans ((ok_5 12 (by decide)).trans h3_12)))))))))))))
  refine z_getN (T := TX1) (N := 16) (ci := 1) hx hb hts (zi_1 _) hown hK hP 2 rfl rfl 12 (by decide) (hZ.2.1 _ zn_157) rfl e_42 dX10_pushLevel_136 ?_
  have hPc := hP.sub (ws' := [(tr, .inr (6, zf 3 f3))]) [3] rfl
  have hDc := hD.sub (ws' := [(tr, .inr (6, zf 3 f3))]) [3] (by decide) rfl
  have hFc := va_free (wc := [(tr, .inr (6, zf 3 f3))]) hD hS hA [3] rfl
  have h_44 : 0 + 0 ≤ 0 ∧ 0 + 0 ≤ 0 := by omega
  refine va_callv (va_runVN (As := []) (rest := []) ⟨hx, hb, hml, hown, hts⟩ (c_Row_clear0 l D x tr f3 H.size) ⟨va_cnB 0 hts (zgood (zm_181 _) rfl) rfl rfl rfl (hZ.2.1 _ zn_158) (hts _ (zm_7 _)) ⟨by decide, by decide, by decide +kernel⟩ ⟨Nat.le_of_ble_eq_true rfl, Nat.le_of_ble_eq_true rfl⟩, hts _ (zm_182 _), hts _ (zm_183 _)⟩ ⟨fun a U g mk q => by obtain ⟨q0, q1, qP, qK, qD⟩ := q; exact ⟨q0, q1, qP, ZK.calling (u := U) zN_ok rfl qK, qD⟩, va_recv hK hPc (ci := 6) (q0 := 0) rfl rfl, fun U hU hW => ⟨rfl, by rw [hU], by rw [hU]; exact hPc, ZK.warm zN_ok hW hZ, hDc.weaken (fun _ _ _ _ => trivial)⟩⟩ rfl rfl hl.1 rfl (lv_room (Nat.le_of_ble_eq_true rfl)) dX10_pushLevel_139 h_44) hS (fun q _ h => hFc q h) hFc (fun c0_43 t H1 locs ht hvm hw_43 hB hz1 hk1 hS => ?_)
  obtain ⟨hP1, hD1⟩ := hB
  rw [ht] at hP1
  try dsimp only at hw_43
  obtain ⟨hP, hD⟩ := va_join (wr := [(lv, .inl (x 7, 30, .inr (.inr (.inr (.inr gl))))), (sc, .inr (7, zf 20 f1)), (l0, .inr (1, zf 16 f_39)), (h0, .inr (10, zf 20 f0))]) (w1 := [(tr, .inr (6, zf 3 c0_43))]) hP hD [3] [0, 1, 2, 4] rfl rfl (by decide) (by decide) hk1 hFc hP1 hD1
  generalize H1 = H at hP hS ⊢
  have hP : va_P D vwCl [(lv, .inl (x 7, 30, .inr (.inr (.inr (.inr gl))))), (sc, .inr (7, zf 20 f1)), (l0, .inr (1, zf 16 f_39)), (h0, .inr (10, zf 20 f0)), (tr, .inr (6, zf 3 c0_43))] H := hP
  have hD : va_D A [(lv, .inl (x 7, 30, .inr (.inr (.inr (.inr gl))))), (sc, .inr (7, zf 20 f1)), (l0, .inr (1, zf 16 f_39)), (h0, .inr (10, zf 20 f0)), (tr, .inr (6, zf 3 c0_43))] := hD
  refine W.widen (k := 0) (n := 0) (by omega) (by omega) ?_
  refine lv_aloadN hx hb dX10_pushLevel_142 (lv_at hl 0 rfl) ?_
  refine lv_ifnullN (tgt := 169) hx hb dX10_pushLevel_144 (by decide) ?_
  refine lv_aload_n hx hb dX10_pushLevel_169 rfl (lv_at hl 2 rfl) ?_
  refine lv_dup hx hb dX10_pushLevel_170 rfl ?_
  refine z_get (T := TX10) (N := 20) (ci := 10) hx hb hts (zi_10 _) hown hK hP 3 rfl rfl 5 (by decide) (hts _ (zm_322 _)) rfl h0_5 dX10_pushLevel_171 ?_
  refine lv_iconst (v := 1) hx hb dX10_pushLevel_174 (by decide) ?_
  refine lv_iadd hx hb dX10_pushLevel_175 ?_
  refine lv_topi (fun y_46 ex_45 => ?_)
  obtain rfl : y_46 = 1 := ex_45.trans (by decide)
  refine z_put (T := TX10) (N := 20) (ci := 10) hx hb hts (zi_10 _) hown hK hP hD hS 3 rfl rfl 5 (by decide) (hts _ (zm_322 _)) rfl rfl rfl rfl dX10_pushLevel_176 (fun H locs f_47 ek_48 ok_49 hP hD hS => ?_)
  have hP : va_P D vwCl [(lv, .inl (x 7, 30, .inr (.inr (.inr (.inr gl))))), (sc, .inr (7, zf 20 f1)), (l0, .inr (1, zf 16 f_39)), (h0, .inr (10, zf 20 f_47)), (tr, .inr (6, zf 3 c0_43))] H := hP
  have hD : va_D A [(lv, .inl (x 7, 30, .inr (.inr (.inr (.inr gl))))), (sc, .inr (7, zf 20 f1)), (l0, .inr (1, zf 16 f_39)), (h0, .inr (10, zf 20 f_47)), (tr, .inr (6, zf 3 c0_43))] := hD
  refine lv_aload_n hx hb dX10_pushLevel_179 rfl (lv_at hl 1 rfl) ?_
  have e_50 : f_39 14 = .ref ow := ((ok_41 14 (by decide)).trans ((ok_38 14 (by decide)).trans ((ok_35 14 (by decide)).trans ((ok_32 14 (by decide)).trans ((ok_29 14 (by decide)).trans ((ok_26 14 (by decide)).trans ((ok_23 14 (by decide)).trans ((ok_20 14 (by decide)).trans ((ok_17 14 (by decide)).trans ((ok_14 14 (by decide)).trans ((ok_11 14 (by decide)).trans ((ok_8 14 (by decide)).trans ((ok_5 14 (by decide)).trans h3_14)))))))))))))
  have hP9 := hP.sub (ws' := [(h0, .inr (10, zf 20 f_47)), (lv, .inl (x 7, 30, .inr (.inr (.inr (.inr gl))))), (sc, .inr (7, zf 20 f1)), (l0, .inr (1, zf 16 f_39)), (tr, .inr (6, zf 3 c0_43))]) [3, 0, 1, 2, 4] rfl
  have hD9 := hD.sub (ws' := [(h0, .inr (10, zf 20 f_47)), (lv, .inl (x 7, 30, .inr (.inr (.inr (.inr gl))))), (sc, .inr (7, zf 20 f1)), (l0, .inr (1, zf 16 f_39)), (tr, .inr (6, zf 3 c0_43))]) [3, 0, 1, 2, 4] (by decide) rfl
  exact W.aret (v := .ref l0) hx hb hr (Or.inl ⟨_, rfl⟩) (Or.inr ⟨_, rfl⟩) (fun t ht hW => ⟨⟨(f_47, f_39, c0_43), _, rfl, ⟨e_50, e_42⟩, ⟨rfl, ⟨by rw [ht]; exact hP9, hD9⟩⟩⟩, hS.F ht⟩) hS.2.2 dX10_pushLevel_180

set_option maxHeartbeats 8000000 in
set_option maxRecDepth 100000 in
/-- Row.addPart of no bytes -/
theorem c_addPart0 (l : Launch) (D : va_G) (x : Nat → ClassId) (h0 : Nat) (f0 : Nat → Value) (b0 : Nat) (g0 : Nat → Int32) (sb : Nat) (gs : Nat → Int32) (sz : Nat) (h0_0 : f0 0 = .ref b0) (h0_1 : f0 1 = .int 0) : Met l yX6_addPart (.code yX6_addPart cX6_addPart 4 (some .boolean) :: zW) ({ frames := 1, cells := (0), slots := (0), locals := 40 }) (va_Pc [.ref h0, .ref sb, .int 0, .int 0] (fun U => U.heap.size = sz ∧ va_P D vwCl [(h0, .inr (6, zf 3 f0)), (b0, .inl (x 1, 250, .inl g0)), (sb, .inl (x 1, 4000, .inl gs))] U.heap ∧ zK x D U ∧ va_D (fun _ => True) [(h0, .inr (6, zf 3 f0)), (b0, .inl (x 1, 250, .inl g0)), (sb, .inl (x 1, 4000, .inl gs))])) (va_Qi (fun (r : Int32) (u : (Nat → Value) × (Nat → Int32)) => match u with | (c0, c1) => r = 1 ∧ c0 0 = .ref b0 ∧ c0 1 = .int 0) (fun u t => match u with | (c0, c1) => zB D vwCl (va_A [(h0, .inr (6, zf 3 f0)), (b0, .inl (x 1, 250, .inl g0)), (sb, .inl (x 1, 4000, .inl gs))] sz) [(h0, .inr (6, zf 3 c0)), (b0, .inl (x 1, 250, .inl c1)), (sb, .inl (x 1, 4000, .inl gs))] t) (va_A [(h0, .inr (6, zf 3 f0)), (b0, .inl (x 1, 250, .inl g0)), (sb, .inl (x 1, 4000, .inl gs))] sz)) (0) (0) (va_A [(h0, .inr (6, zf 3 f0)), (b0, .inl (x 1, 250, .inl g0)), (sb, .inl (x 1, 4000, .inl gs))] sz) := by
  refine Met.ofW (cc := cX6_addPart) (maxL := 4) (ret := (some .boolean)) (by decide) rfl ?_
  intro p e s m args below meth c s₁ B hml hv
  obtain ⟨rfl, hsz, hP, hZ, hD0⟩ := hv
  have hK := hZ.1
  have hx := B.exec
  have hb := B.bytes
  have hr := B.returns
  have hts := atoms_spec (ws := .code yX6_addPart cX6_addPart 4 (some .boolean) :: zW) B.pre
  have hown : s.vm.findClass RX6 = some m.cls := findClass_of_methodNamed B.named
  have hlocks := B.notSynchronized
  subst hsz
  have hD := hD0.self (sz := s.heap.size)
  generalize hAe : va_A [(h0, .inr (6, zf 3 f0)), (b0, .inl (x 1, 250, .inl g0)), (sb, .inl (x 1, 4000, .inl gs))] s.heap.size = A at hD ⊢
  have hA : ∀ q : Nat, s.heap.size ≤ q → A q := fun q h => by rw [← hAe]; exact Or.inr h
  have hS : va_S A s.heap s.heap [] := va_S.rf
  have hP : va_P D vwCl [(h0, .inr (6, zf 3 f0)), (b0, .inl (x 1, 250, .inl g0)), (sb, .inl (x 1, 4000, .inl gs))] s.heap := hP
  have hl := lv_entry ([.ref h0, .ref sb, .int 0, .int 0]) (n := 4) (Nat.le_of_ble_eq_true rfl)
  rw [lg_entry_eq]
  generalize (lg_sl ([.ref h0, .ref sb, .int 0, .int 0]) ++ List.replicate (4 - (lg_sl ([.ref h0, .ref sb, .int 0, .int 0])).length) Slot.unset).toArray = ls at hl ⊢
  have hl : lv_has ls 4 [(0, .ref h0), (1, .ref sb), (2, .int 0), (3, .int 0)] := hl
  refine lv_iload_n hx hb dX6_addPart_0 rfl (lv_at hl 2 rfl) ?_
  refine lv_if_lt (tgt := 30) hx hb dX6_addPart_1 (by decide) (fun c9 => absurd c9 (by decide)) (fun _ => ?_)
  refine lv_iload_n hx hb dX6_addPart_4 rfl (lv_at hl 3 rfl) ?_
  refine lv_if_lt (tgt := 30) hx hb dX6_addPart_5 (by decide) (fun c9 => absurd c9 (by decide)) (fun _ => ?_)
  refine lv_iload_n hx hb dX6_addPart_8 rfl (lv_at hl 3 rfl) ?_
  refine lv_aload_n hx hb dX6_addPart_9 rfl (lv_at hl 1 rfl) ?_
  refine va_alen (v := 4000) hx hb hK hP 2 1 rfl rfl rfl dX6_addPart_10 ?_
  refine lv_iload_n hx hb dX6_addPart_11 rfl (lv_at hl 2 rfl) ?_
  refine lv_isub hx hb dX6_addPart_12 ?_
  refine lv_topi (fun y_2 ex_1 => ?_)
  obtain rfl : y_2 = 4000 := ex_1.trans (by decide)
  refine lv_icmp_gt (tgt := 30) hx hb dX6_addPart_13 (by decide) (fun c9 => absurd c9 (by decide)) (fun _ => ?_)
  refine lv_iload_n hx hb dX6_addPart_16 rfl (lv_at hl 3 rfl) ?_
  refine lv_aload_n hx hb dX6_addPart_17 rfl (lv_at hl 0 rfl) ?_
  refine z_get (T := TX6) (N := 3) (ci := 6) hx hb hts (zi_6 _) hown hK hP 0 rfl rfl 0 (by decide) (hts _ (zm_11 _)) rfl h0_0 dX6_addPart_18 ?_
  refine va_alen (v := 250) hx hb hK hP 1 1 rfl rfl rfl dX6_addPart_21 ?_
  refine lv_aload_n hx hb dX6_addPart_22 rfl (lv_at hl 0 rfl) ?_
  refine z_get (T := TX6) (N := 3) (ci := 6) hx hb hts (zi_6 _) hown hK hP 0 rfl rfl 1 (by decide) (hts _ (zm_184 _)) rfl h0_1 dX6_addPart_23 ?_
  refine lv_isub hx hb dX6_addPart_26 ?_
  refine lv_topi (fun y_4 ex_3 => ?_)
  obtain rfl : y_4 = 250 := ex_3.trans (by decide)
  refine lv_icmp_le (tgt := 32) hx hb dX6_addPart_27 (by decide) (fun _ => ?_) (fun c9 => absurd (by decide) c9)
  refine lv_aload_n hx hb dX6_addPart_32 rfl (lv_at hl 1 rfl) ?_
  refine lv_iload_n hx hb dX6_addPart_33 rfl (lv_at hl 2 rfl) ?_
  refine lv_aload_n hx hb dX6_addPart_34 rfl (lv_at hl 0 rfl) ?_
  refine z_get (T := TX6) (N := 3) (ci := 6) hx hb hts (zi_6 _) hown hK hP 0 rfl rfl 0 (by decide) (hts _ (zm_11 _)) rfl h0_0 dX6_addPart_35 ?_
  refine lv_aload_n hx hb dX6_addPart_38 rfl (lv_at hl 0 rfl) ?_
  refine z_get (T := TX6) (N := 3) (ci := 6) hx hb hts (zi_6 _) hown hK hP 0 rfl rfl 1 (by decide) (hts _ (zm_184 _)) rfl h0_1 dX6_addPart_39 ?_
  refine lv_iload_n hx hb dX6_addPart_42 rfl (lv_at hl 3 rfl) ?_
  refine va_copyi (ty := .byte) hx hb (hml.trans hl.1.symm) hown (hts _ (zm_195 _)) (hts _ (zm_900 _)) (hts _ (zm_901 _)) (hts _ (zm_902 _)) hK hP hD hS 2 1 1 1 rfl rfl rfl rfl rfl (by decide) (by decide) (by decide) (by decide) (by decide) (fun i hi => absurd hi (Nat.not_lt_zero i)) (Nat.le_of_ble_eq_true rfl) (by decide) dX6_addPart_43 (fun H locs hP hD hS => ?_)
  generalize va_cpy gs g0 _ _ _ = g_5 at hP hD
  have hP : va_P D vwCl [(h0, .inr (6, zf 3 f0)), (b0, .inl (x 1, 250, .inl g_5)), (sb, .inl (x 1, 4000, .inl gs))] H := hP
  have hD : va_D A [(h0, .inr (6, zf 3 f0)), (b0, .inl (x 1, 250, .inl g_5)), (sb, .inl (x 1, 4000, .inl gs))] := hD
  refine lv_aload_n hx hb dX6_addPart_46 rfl (lv_at hl 0 rfl) ?_
  refine lv_dup hx hb dX6_addPart_47 rfl ?_
  refine z_get (T := TX6) (N := 3) (ci := 6) hx hb hts (zi_6 _) hown hK hP 0 rfl rfl 1 (by decide) (hts _ (zm_184 _)) rfl h0_1 dX6_addPart_48 ?_
  refine lv_iload_n hx hb dX6_addPart_51 rfl (lv_at hl 3 rfl) ?_
  refine lv_iadd hx hb dX6_addPart_52 ?_
  refine lv_topi (fun y_7 ex_6 => ?_)
  obtain rfl : y_7 = 0 := ex_6.trans (by decide)
  refine z_put (T := TX6) (N := 3) (ci := 6) hx hb hts (zi_6 _) hown hK hP hD hS 0 rfl rfl 1 (by decide) (hts _ (zm_184 _)) rfl rfl rfl rfl dX6_addPart_53 (fun H locs f_8 ek_9 ok_10 hP hD hS => ?_)
  have hP : va_P D vwCl [(h0, .inr (6, zf 3 f_8)), (b0, .inl (x 1, 250, .inl g_5)), (sb, .inl (x 1, 4000, .inl gs))] H := hP
  have hD : va_D A [(h0, .inr (6, zf 3 f_8)), (b0, .inl (x 1, 250, .inl g_5)), (sb, .inl (x 1, 4000, .inl gs))] := hD
  refine lv_iconst (v := 1) hx hb dX6_addPart_56 (by decide) ?_
  have hP9 := hP.sub (ws' := [(h0, .inr (6, zf 3 f_8)), (b0, .inl (x 1, 250, .inl g_5)), (sb, .inl (x 1, 4000, .inl gs))]) [0, 1, 2] rfl
  have hD9 := hD.sub (ws' := [(h0, .inr (6, zf 3 f_8)), (b0, .inl (x 1, 250, .inl g_5)), (sb, .inl (x 1, 4000, .inl gs))]) [0, 1, 2] (by decide) rfl
  exact W.zret (v := 1) hx hb hr (by decide) (fun t ht hW => ⟨⟨_, (f_8, g_5), rfl, ⟨rfl, ((ok_10 0 (by decide)).trans h0_0), ek_9⟩, ⟨by rw [ht]; exact hP9, hD9⟩⟩, hS.F ht⟩) hS.2.2 dX6_addPart_57

set_option maxHeartbeats 8000000 in
set_option maxRecDepth 100000 in
/-- Machine.beginProcess, the first -/
theorem c_beginProcess0 (l : Launch) (D : va_G) (x : Nat → ClassId) (h0 : Nat) (f0 : Nat → Value) (pr : Nat) (gp : Nat → Option Nat) (wk : Nat) (gw : Nat → Option Nat) (p0 : Nat) (fp : Nat → Value) (co : Nat) (f4 : Nat → Value) (ou : Nat) (f5 : Nat → Value) (w0 : Nat) (fw : Nat → Value) (na : Nat) (f1 : Nat → Value) (sc : Nat) (f2 : Nat → Value) (lg : Nat) (f3 : Nat → Value) (lv : Nat) (gl : Nat → Option Nat) (l0 : Nat) (f6 : Nat → Value) (tr : Nat) (f7 : Nat → Value) (ow : Nat) (ft : Nat → Value) (b : Nat) (gb : Nat → Int32) (va : Nat) (fv : Nat → Value) (vb : Nat) (gv : Nat → Int32) (cd : Nat) (s1 : Nat) (s2 : Nat) (s3 : Nat) (s4 : Nat) (s5 : Nat) (sz : Nat) (h0_4 : f0 4 = .int 0) (h0_3 : f0 3 = .ref pr) (h0_5 : f0 5 = .ref wk) (h1_0 : gp 0 = some p0) (h2_0 : gw 0 = some w0) (h3_12 : fp 12 = .ref co) (h3_13 : fp 13 = .ref ou) (h6_17 : fw 17 = .ref na) (h6_18 : fw 18 = .ref sc) (h6_4 : fw 4 = .ref lv) (h6_13 : fw 13 = .null) (h6_14 : fw 14 = .int 0) (h8_12 : f2 12 = .ref lg) (h10_0 : gl 0 = some l0) (h11_12 : f6 12 = .ref tr) (h11_14 : f6 14 = .ref ow) (h13_0 : ft 0 = .ref b) (h13_2 : ft 2 = .ref cd) (h13_5 : ft 5 = .ref s1) (h13_6 : ft 6 = .ref s2) (h13_7 : ft 7 = .ref s3) (h13_8 : ft 8 = .ref s4) (h13_9 : ft 9 = .ref s5) (h15_0 : fv 0 = .ref vb) (h15_1 : fv 1 = .int 0) : Met l yX2_beginProcess (.code yX2_beginProcess cX2_beginProcess 4 (some (.object "MumpsHouse$Proc")) :: zW) ({ frames := 4, cells := (0), slots := (0), locals := 83 }) (va_Pc [.ref h0, .ref va] (fun U => U.heap.size = sz ∧ va_P D vwCl [(h0, .inr (2, zf 19 f0)), (pr, .inl (x 9, 24, .inr (.inr (.inr (.inr gp))))), (wk, .inl (x 10, 6, .inr (.inr (.inr (.inr gw))))), (p0, .inr (5, zf 14 fp)), (co, .inr (6, zf 3 f4)), (ou, .inr (6, zf 3 f5)), (w0, .inr (10, zf 20 fw)), (na, .inr (3, zf 9 f1)), (sc, .inr (7, zf 20 f2)), (lg, .inr (6, zf 3 f3)), (lv, .inl (x 7, 30, .inr (.inr (.inr (.inr gl))))), (l0, .inr (1, zf 16 f6)), (tr, .inr (6, zf 3 f7)), (ow, .inr (8, zf 18 ft)), (b, .inl (x 1, 250, .inl gb)), (va, .inr (6, zf 3 fv)), (vb, .inl (x 1, 250, .inl gv))] U.heap ∧ zK x D U ∧ va_D (fun _ => True) [(h0, .inr (2, zf 19 f0)), (pr, .inl (x 9, 24, .inr (.inr (.inr (.inr gp))))), (wk, .inl (x 10, 6, .inr (.inr (.inr (.inr gw))))), (p0, .inr (5, zf 14 fp)), (co, .inr (6, zf 3 f4)), (ou, .inr (6, zf 3 f5)), (w0, .inr (10, zf 20 fw)), (na, .inr (3, zf 9 f1)), (sc, .inr (7, zf 20 f2)), (lg, .inr (6, zf 3 f3)), (lv, .inl (x 7, 30, .inr (.inr (.inr (.inr gl))))), (l0, .inr (1, zf 16 f6)), (tr, .inr (6, zf 3 f7)), (ow, .inr (8, zf 18 ft)), (b, .inl (x 1, 250, .inl gb)), (va, .inr (6, zf 3 fv)), (vb, .inl (x 1, 250, .inl gv))])) (va_Qr (fun u : (Nat → Value) × (Nat → Value) × (Nat → Value) × (Nat → Int32) => match u with | (c0, c1, c2, c3) => c0 0 = .int 0 ∧ c0 1 = .ref w0 ∧ c1 13 = .ref ow ∧ c2 0 = .ref b ∧ c2 2 = .ref cd ∧ c2 5 = .ref s1 ∧ c2 6 = .ref s2 ∧ c2 7 = .ref s3 ∧ c2 8 = .ref s4 ∧ c2 9 = .ref s5 ∧ c2 1 = .int 0) (fun u ra t => match u with | (c0, c1, c2, c3) => p0 = ra ∧ zB D vwCl (va_A [(h0, .inr (2, zf 19 f0)), (pr, .inl (x 9, 24, .inr (.inr (.inr (.inr gp))))), (wk, .inl (x 10, 6, .inr (.inr (.inr (.inr gw))))), (p0, .inr (5, zf 14 fp)), (co, .inr (6, zf 3 f4)), (ou, .inr (6, zf 3 f5)), (w0, .inr (10, zf 20 fw)), (na, .inr (3, zf 9 f1)), (sc, .inr (7, zf 20 f2)), (lg, .inr (6, zf 3 f3)), (lv, .inl (x 7, 30, .inr (.inr (.inr (.inr gl))))), (l0, .inr (1, zf 16 f6)), (tr, .inr (6, zf 3 f7)), (ow, .inr (8, zf 18 ft)), (b, .inl (x 1, 250, .inl gb)), (va, .inr (6, zf 3 fv)), (vb, .inl (x 1, 250, .inl gv))] sz) [(p0, .inr (5, zf 14 c0)), (w0, .inr (10, zf 20 c1)), (ow, .inr (8, zf 18 c2)), (b, .inl (x 1, 250, .inl c3)), (va, .inr (6, zf 3 fv)), (vb, .inl (x 1, 250, .inl gv))] t) (va_A [(h0, .inr (2, zf 19 f0)), (pr, .inl (x 9, 24, .inr (.inr (.inr (.inr gp))))), (wk, .inl (x 10, 6, .inr (.inr (.inr (.inr gw))))), (p0, .inr (5, zf 14 fp)), (co, .inr (6, zf 3 f4)), (ou, .inr (6, zf 3 f5)), (w0, .inr (10, zf 20 fw)), (na, .inr (3, zf 9 f1)), (sc, .inr (7, zf 20 f2)), (lg, .inr (6, zf 3 f3)), (lv, .inl (x 7, 30, .inr (.inr (.inr (.inr gl))))), (l0, .inr (1, zf 16 f6)), (tr, .inr (6, zf 3 f7)), (ow, .inr (8, zf 18 ft)), (b, .inl (x 1, 250, .inl gb)), (va, .inr (6, zf 3 fv)), (vb, .inl (x 1, 250, .inl gv))] sz)) (0) (0) (va_A [(h0, .inr (2, zf 19 f0)), (pr, .inl (x 9, 24, .inr (.inr (.inr (.inr gp))))), (wk, .inl (x 10, 6, .inr (.inr (.inr (.inr gw))))), (p0, .inr (5, zf 14 fp)), (co, .inr (6, zf 3 f4)), (ou, .inr (6, zf 3 f5)), (w0, .inr (10, zf 20 fw)), (na, .inr (3, zf 9 f1)), (sc, .inr (7, zf 20 f2)), (lg, .inr (6, zf 3 f3)), (lv, .inl (x 7, 30, .inr (.inr (.inr (.inr gl))))), (l0, .inr (1, zf 16 f6)), (tr, .inr (6, zf 3 f7)), (ow, .inr (8, zf 18 ft)), (b, .inl (x 1, 250, .inl gb)), (va, .inr (6, zf 3 fv)), (vb, .inl (x 1, 250, .inl gv))] sz) := by
  refine Met.ofW (cc := cX2_beginProcess) (maxL := 4) (ret := (some (.object "MumpsHouse$Proc"))) (by decide) rfl ?_
  intro p e s m args below meth c s₁ B hml hv
  obtain ⟨rfl, hsz, hP, hZ, hD0⟩ := hv
  have hK := hZ.1
  have hx := B.exec
  have hb := B.bytes
  have hr := B.returns
  have hts := atoms_spec (ws := .code yX2_beginProcess cX2_beginProcess 4 (some (.object "MumpsHouse$Proc")) :: zW) B.pre
  have hown : s.vm.findClass RX2 = some m.cls := findClass_of_methodNamed B.named
  have hlocks := B.notSynchronized
  subst hsz
  have hD := hD0.self (sz := s.heap.size)
  generalize hAe : va_A [(h0, .inr (2, zf 19 f0)), (pr, .inl (x 9, 24, .inr (.inr (.inr (.inr gp))))), (wk, .inl (x 10, 6, .inr (.inr (.inr (.inr gw))))), (p0, .inr (5, zf 14 fp)), (co, .inr (6, zf 3 f4)), (ou, .inr (6, zf 3 f5)), (w0, .inr (10, zf 20 fw)), (na, .inr (3, zf 9 f1)), (sc, .inr (7, zf 20 f2)), (lg, .inr (6, zf 3 f3)), (lv, .inl (x 7, 30, .inr (.inr (.inr (.inr gl))))), (l0, .inr (1, zf 16 f6)), (tr, .inr (6, zf 3 f7)), (ow, .inr (8, zf 18 ft)), (b, .inl (x 1, 250, .inl gb)), (va, .inr (6, zf 3 fv)), (vb, .inl (x 1, 250, .inl gv))] s.heap.size = A at hD ⊢
  have hA : ∀ q : Nat, s.heap.size ≤ q → A q := fun q h => by rw [← hAe]; exact Or.inr h
  have hS : va_S A s.heap s.heap [] := va_S.rf
  have hP : va_P D vwCl [(h0, .inr (2, zf 19 f0)), (pr, .inl (x 9, 24, .inr (.inr (.inr (.inr gp))))), (wk, .inl (x 10, 6, .inr (.inr (.inr (.inr gw))))), (p0, .inr (5, zf 14 fp)), (co, .inr (6, zf 3 f4)), (ou, .inr (6, zf 3 f5)), (w0, .inr (10, zf 20 fw)), (na, .inr (3, zf 9 f1)), (sc, .inr (7, zf 20 f2)), (lg, .inr (6, zf 3 f3)), (lv, .inl (x 7, 30, .inr (.inr (.inr (.inr gl))))), (l0, .inr (1, zf 16 f6)), (tr, .inr (6, zf 3 f7)), (ow, .inr (8, zf 18 ft)), (b, .inl (x 1, 250, .inl gb)), (va, .inr (6, zf 3 fv)), (vb, .inl (x 1, 250, .inl gv))] s.heap := hP
  have hl := lv_entry ([.ref h0, .ref va]) (n := 4) (Nat.le_of_ble_eq_true rfl)
  rw [lg_entry_eq]
  generalize (lg_sl ([.ref h0, .ref va]) ++ List.replicate (4 - (lg_sl ([.ref h0, .ref va])).length) Slot.unset).toArray = ls at hl ⊢
  have hl : lv_has ls 4 [(0, .ref h0), (1, .ref va)] := hl
  refine lv_aload_n hx hb dX2_beginProcess_0 rfl (lv_at hl 0 rfl) ?_
  have hPc := hP.sub (ws' := [(h0, .inr (2, zf 19 f0)), (pr, .inl (x 9, 24, .inr (.inr (.inr (.inr gp))))), (wk, .inl (x 10, 6, .inr (.inr (.inr (.inr gw))))), (p0, .inr (5, zf 14 fp)), (co, .inr (6, zf 3 f4)), (ou, .inr (6, zf 3 f5)), (w0, .inr (10, zf 20 fw)), (na, .inr (3, zf 9 f1)), (sc, .inr (7, zf 20 f2)), (lg, .inr (6, zf 3 f3))]) [0, 1, 2, 3, 4, 5, 6, 7, 8, 9] rfl
  have hDc := hD.sub (ws' := [(h0, .inr (2, zf 19 f0)), (pr, .inl (x 9, 24, .inr (.inr (.inr (.inr gp))))), (wk, .inl (x 10, 6, .inr (.inr (.inr (.inr gw))))), (p0, .inr (5, zf 14 fp)), (co, .inr (6, zf 3 f4)), (ou, .inr (6, zf 3 f5)), (w0, .inr (10, zf 20 fw)), (na, .inr (3, zf 9 f1)), (sc, .inr (7, zf 20 f2)), (lg, .inr (6, zf 3 f3))]) [0, 1, 2, 3, 4, 5, 6, 7, 8, 9] (by decide) rfl
  have hFc := va_free (wc := [(h0, .inr (2, zf 19 f0)), (pr, .inl (x 9, 24, .inr (.inr (.inr (.inr gp))))), (wk, .inl (x 10, 6, .inr (.inr (.inr (.inr gw))))), (p0, .inr (5, zf 14 fp)), (co, .inr (6, zf 3 f4)), (ou, .inr (6, zf 3 f5)), (w0, .inr (10, zf 20 fw)), (na, .inr (3, zf 9 f1)), (sc, .inr (7, zf 20 f2)), (lg, .inr (6, zf 3 f3))]) hD hS hA [0, 1, 2, 3, 4, 5, 6, 7, 8, 9] rfl
  have h_10 : 0 + 0 ≤ 0 ∧ 0 + 0 ≤ 0 := by omega
  refine va_callr (va_runV (As := []) (rest := []) ⟨hx, hb, hml, hown, hts⟩ (c_create0 l D x h0 f0 pr gp wk gw p0 fp co f4 ou f5 w0 fw na f1 sc f2 lg f3 lv s.heap.size h0_4 h0_3 h0_5 h1_0 h2_0 h3_12 h3_13 h6_17 h6_18 h6_4 h6_13 h6_14 h8_12) ⟨callB_of 0 hts (zgood (zm_306 _) rfl) rfl rfl rfl (hts _ (zm_146 _)) (hts _ (zm_316 _)) ⟨by decide, by decide, by decide +kernel⟩ ⟨Nat.le_of_ble_eq_true rfl, Nat.le_of_ble_eq_true rfl⟩, hts _ (zm_307 _), hts _ (zm_308 _)⟩ ⟨fun a U g mk q => by obtain ⟨q0, q1, qP, qK, qD⟩ := q; exact ⟨q0, q1, qP, ZK.calling (u := U) zN_ok rfl qK, qD⟩, va_recv hK hPc (ci := 2) (q0 := 0) rfl rfl, fun U hU hW => ⟨rfl, by rw [hU], by rw [hU]; exact hPc, ZK.warm zN_ok hW hZ, hDc.weaken (fun _ _ _ _ => trivial)⟩⟩ rfl rfl hl.1 rfl (lv_room (Nat.le_of_ble_eq_true rfl)) dX2_beginProcess_1 h_10) hS (fun q _ h => hFc q h) hFc (fun u ra_9 t H1 locs ht hvm hw_9 hB hz1 hk1 hS => ?_)
  obtain ⟨c0_1, c3_2, c4_3, c5_4, c6_5, c7_6, c8_7, c9_8⟩ := u
  obtain ⟨hra, hP1, hD1⟩ := hB
  subst hra
  rw [ht] at hP1
  try dsimp only at hw_9
  obtain ⟨hP, hD⟩ := va_join (wr := [(lv, .inl (x 7, 30, .inr (.inr (.inr (.inr gl))))), (l0, .inr (1, zf 16 f6)), (tr, .inr (6, zf 3 f7)), (ow, .inr (8, zf 18 ft)), (b, .inl (x 1, 250, .inl gb)), (va, .inr (6, zf 3 fv)), (vb, .inl (x 1, 250, .inl gv))]) (w1 := [(h0, .inr (2, zf 19 c0_1)), (pr, .inl (x 9, 24, .inr (.inr (.inr (.inr gp))))), (wk, .inl (x 10, 6, .inr (.inr (.inr (.inr gw))))), (p0, .inr (5, zf 14 c3_2)), (co, .inr (6, zf 3 c4_3)), (ou, .inr (6, zf 3 c5_4)), (w0, .inr (10, zf 20 c6_5)), (na, .inr (3, zf 9 c7_6)), (sc, .inr (7, zf 20 c8_7)), (lg, .inr (6, zf 3 c9_8))]) hP hD [0, 1, 2, 3, 4, 5, 6, 7, 8, 9] [10, 11, 12, 13, 14, 15, 16] rfl rfl (by decide) (by decide) hk1 hFc hP1 hD1
  generalize H1 = H at hP hS ⊢
  have hP : va_P D vwCl [(lv, .inl (x 7, 30, .inr (.inr (.inr (.inr gl))))), (l0, .inr (1, zf 16 f6)), (tr, .inr (6, zf 3 f7)), (ow, .inr (8, zf 18 ft)), (b, .inl (x 1, 250, .inl gb)), (va, .inr (6, zf 3 fv)), (vb, .inl (x 1, 250, .inl gv)), (h0, .inr (2, zf 19 c0_1)), (pr, .inl (x 9, 24, .inr (.inr (.inr (.inr gp))))), (wk, .inl (x 10, 6, .inr (.inr (.inr (.inr gw))))), (p0, .inr (5, zf 14 c3_2)), (co, .inr (6, zf 3 c4_3)), (ou, .inr (6, zf 3 c5_4)), (w0, .inr (10, zf 20 c6_5)), (na, .inr (3, zf 9 c7_6)), (sc, .inr (7, zf 20 c8_7)), (lg, .inr (6, zf 3 c9_8))] H := hP
  have hD : va_D A [(lv, .inl (x 7, 30, .inr (.inr (.inr (.inr gl))))), (l0, .inr (1, zf 16 f6)), (tr, .inr (6, zf 3 f7)), (ow, .inr (8, zf 18 ft)), (b, .inl (x 1, 250, .inl gb)), (va, .inr (6, zf 3 fv)), (vb, .inl (x 1, 250, .inl gv)), (h0, .inr (2, zf 19 c0_1)), (pr, .inl (x 9, 24, .inr (.inr (.inr (.inr gp))))), (wk, .inl (x 10, 6, .inr (.inr (.inr (.inr gw))))), (p0, .inr (5, zf 14 c3_2)), (co, .inr (6, zf 3 c4_3)), (ou, .inr (6, zf 3 c5_4)), (w0, .inr (10, zf 20 c6_5)), (na, .inr (3, zf 9 c7_6)), (sc, .inr (7, zf 20 c8_7)), (lg, .inr (6, zf 3 c9_8))] := hD
  refine W.widen (k := 0) (n := 0) (by omega) (by omega) ?_
  refine lv_astore_n (lv' := [(2, .ref p0), (0, .ref h0), (1, .ref va)]) hx hb dX2_beginProcess_4 rfl hl (by decide) rfl (fun ls hl => ?_)
  refine lv_aload_n hx hb dX2_beginProcess_5 rfl (lv_at hl 0 rfl) ?_
  refine lv_ifnull hx hb dX2_beginProcess_6 ?_
  refine lv_aload_n hx hb dX2_beginProcess_9 rfl (lv_at hl 0 rfl) ?_
  refine z_getN (T := TX5) (N := 14) (ci := 5) hx hb hts (zi_5 _) hown hK hP 10 rfl rfl 1 (by decide) (hZ.2.1 _ zn_123) rfl hw_9.2.1 dX2_beginProcess_10 ?_
  refine lv_ifnonnull (tgt := 18) hx hb dX2_beginProcess_13 (by decide) ?_
  refine lv_aload_n hx hb dX2_beginProcess_18 rfl (lv_at hl 0 rfl) ?_
  refine z_getN (T := TX5) (N := 14) (ci := 5) hx hb hts (zi_5 _) hown hK hP 10 rfl rfl 1 (by decide) (hZ.2.1 _ zn_123) rfl hw_9.2.1 dX2_beginProcess_19 ?_
  refine lv_iconst (v := 2) hx hb dX2_beginProcess_22 (by decide) ?_
  refine lv_iconst (v := 0) hx hb dX2_beginProcess_23 (by decide) ?_
  have hPc := hP.sub (ws' := [(w0, .inr (10, zf 20 c6_5)), (lv, .inl (x 7, 30, .inr (.inr (.inr (.inr gl))))), (sc, .inr (7, zf 20 c8_7)), (l0, .inr (1, zf 16 f6)), (tr, .inr (6, zf 3 f7))]) [13, 0, 15, 1, 2] rfl
  have hDc := hD.sub (ws' := [(w0, .inr (10, zf 20 c6_5)), (lv, .inl (x 7, 30, .inr (.inr (.inr (.inr gl))))), (sc, .inr (7, zf 20 c8_7)), (l0, .inr (1, zf 16 f6)), (tr, .inr (6, zf 3 f7))]) [13, 0, 15, 1, 2] (by decide) rfl
  have hFc := va_free (wc := [(w0, .inr (10, zf 20 c6_5)), (lv, .inl (x 7, 30, .inr (.inr (.inr (.inr gl))))), (sc, .inr (7, zf 20 c8_7)), (l0, .inr (1, zf 16 f6)), (tr, .inr (6, zf 3 f7))]) hD hS hA [13, 0, 15, 1, 2] rfl
  have h_15 : 0 + 0 ≤ 0 ∧ 0 + 0 ≤ 0 := by omega
  refine va_callr (va_runVN (As := [.int 2, .int 0]) (rest := []) ⟨hx, hb, hml, hown, hts⟩ (c_pushLevel0 l D x w0 c6_5 lv gl sc c8_7 l0 f6 tr f7 ow H.size hw_9.2.2.2.2.1 hw_9.2.2.1 hw_9.2.2.2.1 hw_9.2.2.2.2.2.1 hw_9.2.2.2.2.2.2.1 hw_9.2.2.2.2.2.2.2.2.2.2.2.2.1 hw_9.2.2.2.2.2.2.2.2.2.2.2.1 hw_9.2.2.2.2.2.2.2.2.2.2.1 hw_9.2.2.2.2.2.2.2.2.2.1 h10_0 hw_9.2.2.2.2.2.2.2.2.2.2.2.2.2 h11_12 h11_14) ⟨va_cnB 2 hts (zgood (zm_364 _) rfl) rfl rfl rfl (hZ.2.1 _ zn_131) (hts _ (zm_92 _)) ⟨by decide, by decide, by decide +kernel⟩ ⟨Nat.le_of_ble_eq_true rfl, Nat.le_of_ble_eq_true rfl⟩, hts _ (zm_365 _), hts _ (zm_366 _)⟩ ⟨fun a U g mk q => by obtain ⟨q0, q1, qP, qK, qD⟩ := q; exact ⟨q0, q1, qP, ZK.calling (u := U) zN_ok rfl qK, qD⟩, va_recv hK hPc (ci := 10) (q0 := 0) rfl rfl, fun U hU hW => ⟨rfl, by rw [hU], by rw [hU]; exact hPc, ZK.warm zN_ok hW hZ, hDc.weaken (fun _ _ _ _ => trivial)⟩⟩ rfl rfl hl.1 rfl (lv_room (Nat.le_of_ble_eq_true rfl)) dX2_beginProcess_24 h_15) hS (fun q _ h => hFc q h) hFc (fun u ra_14 t H1 locs ht hvm hw_14 hB hz1 hk1 hS => ?_)
  obtain ⟨c0_11, c3_12, c4_13⟩ := u
  obtain ⟨hra, hP1, hD1⟩ := hB
  subst hra
  rw [ht] at hP1
  try dsimp only at hw_14
  obtain ⟨hP, hD⟩ := va_join (wr := [(ow, .inr (8, zf 18 ft)), (b, .inl (x 1, 250, .inl gb)), (va, .inr (6, zf 3 fv)), (vb, .inl (x 1, 250, .inl gv)), (h0, .inr (2, zf 19 c0_1)), (pr, .inl (x 9, 24, .inr (.inr (.inr (.inr gp))))), (wk, .inl (x 10, 6, .inr (.inr (.inr (.inr gw))))), (p0, .inr (5, zf 14 c3_2)), (co, .inr (6, zf 3 c4_3)), (ou, .inr (6, zf 3 c5_4)), (na, .inr (3, zf 9 c7_6)), (lg, .inr (6, zf 3 c9_8))]) (w1 := [(w0, .inr (10, zf 20 c0_11)), (lv, .inl (x 7, 30, .inr (.inr (.inr (.inr gl))))), (sc, .inr (7, zf 20 c8_7)), (l0, .inr (1, zf 16 c3_12)), (tr, .inr (6, zf 3 c4_13))]) hP hD [13, 0, 15, 1, 2] [3, 4, 5, 6, 7, 8, 9, 10, 11, 12, 14, 16] rfl rfl (by decide) (by decide) hk1 hFc hP1 hD1
  generalize H1 = H at hP hS ⊢
  have hP : va_P D vwCl [(ow, .inr (8, zf 18 ft)), (b, .inl (x 1, 250, .inl gb)), (va, .inr (6, zf 3 fv)), (vb, .inl (x 1, 250, .inl gv)), (h0, .inr (2, zf 19 c0_1)), (pr, .inl (x 9, 24, .inr (.inr (.inr (.inr gp))))), (wk, .inl (x 10, 6, .inr (.inr (.inr (.inr gw))))), (p0, .inr (5, zf 14 c3_2)), (co, .inr (6, zf 3 c4_3)), (ou, .inr (6, zf 3 c5_4)), (na, .inr (3, zf 9 c7_6)), (lg, .inr (6, zf 3 c9_8)), (w0, .inr (10, zf 20 c0_11)), (lv, .inl (x 7, 30, .inr (.inr (.inr (.inr gl))))), (sc, .inr (7, zf 20 c8_7)), (l0, .inr (1, zf 16 c3_12)), (tr, .inr (6, zf 3 c4_13))] H := hP
  have hD : va_D A [(ow, .inr (8, zf 18 ft)), (b, .inl (x 1, 250, .inl gb)), (va, .inr (6, zf 3 fv)), (vb, .inl (x 1, 250, .inl gv)), (h0, .inr (2, zf 19 c0_1)), (pr, .inl (x 9, 24, .inr (.inr (.inr (.inr gp))))), (wk, .inl (x 10, 6, .inr (.inr (.inr (.inr gw))))), (p0, .inr (5, zf 14 c3_2)), (co, .inr (6, zf 3 c4_3)), (ou, .inr (6, zf 3 c5_4)), (na, .inr (3, zf 9 c7_6)), (lg, .inr (6, zf 3 c9_8)), (w0, .inr (10, zf 20 c0_11)), (lv, .inl (x 7, 30, .inr (.inr (.inr (.inr gl))))), (sc, .inr (7, zf 20 c8_7)), (l0, .inr (1, zf 16 c3_12)), (tr, .inr (6, zf 3 c4_13))] := hD
  refine W.widen (k := 0) (n := 0) (by omega) (by omega) ?_
  refine lv_astore_n (lv' := [(3, .ref l0), (2, .ref p0), (0, .ref h0), (1, .ref va)]) hx hb dX2_beginProcess_27 rfl hl (by decide) rfl (fun ls hl => ?_)
  refine lv_aload_n hx hb dX2_beginProcess_28 rfl (lv_at hl 0 rfl) ?_
  refine lv_ifnonnull (tgt := 34) hx hb dX2_beginProcess_29 (by decide) ?_
  refine lv_aload_n hx hb dX2_beginProcess_34 rfl (lv_at hl 0 rfl) ?_
  refine z_getN (T := TX1) (N := 16) (ci := 1) hx hb hts (zi_1 _) hown hK hP 15 rfl rfl 14 (by decide) (hZ.2.1 _ zn_132) rfl hw_14.1 dX2_beginProcess_35 ?_
  refine lv_aload_n hx hb dX2_beginProcess_38 rfl (lv_at hl 3 rfl) ?_
  refine z_getN (T := TX6) (N := 3) (ci := 6) hx hb hts (zi_6 _) hown hK hP 2 rfl rfl 0 (by decide) (hZ.2.1 _ zn_133) rfl h15_0 dX2_beginProcess_39 ?_
  refine lv_iconst (v := 0) hx hb dX2_beginProcess_42 (by decide) ?_
  refine lv_aload_n hx hb dX2_beginProcess_43 rfl (lv_at hl 3 rfl) ?_
  refine z_getN (T := TX6) (N := 3) (ci := 6) hx hb hts (zi_6 _) hown hK hP 2 rfl rfl 1 (by decide) (hZ.2.1 _ zn_134) rfl h15_1 dX2_beginProcess_44 ?_
  have hPc := hP.sub (ws' := [(ow, .inr (8, zf 18 ft)), (b, .inl (x 1, 250, .inl gb)), (vb, .inl (x 1, 250, .inl gv))]) [0, 1, 3] rfl
  have hDc := hD.sub (ws' := [(ow, .inr (8, zf 18 ft)), (b, .inl (x 1, 250, .inl gb)), (vb, .inl (x 1, 250, .inl gv))]) [0, 1, 3] (by decide) rfl
  have hFc := va_free (wc := [(ow, .inr (8, zf 18 ft)), (b, .inl (x 1, 250, .inl gb)), (vb, .inl (x 1, 250, .inl gv))]) hD hS hA [0, 1, 3] rfl
  have h_19 : 0 + 0 ≤ 0 ∧ 0 + 0 ≤ 0 := by omega
  refine va_calli (va_runVN (As := [.ref vb, .int 0, .int 0]) (rest := []) ⟨hx, hb, hml, hown, hts⟩ (c_loadL l D x ow ft b gb vb gv cd s1 s2 s3 s4 s5 H.size h13_0 h13_2 h13_5 h13_6 h13_7 h13_8 h13_9) ⟨va_cnB 3 hts (zgood (zm_377 _) rfl) rfl rfl rfl (hZ.2.1 _ zn_135) (hts _ (zm_37 _)) ⟨by decide, by decide, by decide +kernel⟩ ⟨Nat.le_of_ble_eq_true rfl, Nat.le_of_ble_eq_true rfl⟩, hts _ (zm_378 _), hts _ (zm_379 _)⟩ ⟨fun a U g mk q => by obtain ⟨q0, q1, qP, qK, qD⟩ := q; exact ⟨q0, q1, qP, ZK.calling (u := U) zN_ok rfl qK, qD⟩, va_recv hK hPc (ci := 8) (q0 := 0) rfl rfl, fun U hU hW => ⟨rfl, by rw [hU], by rw [hU]; exact hPc, ZK.warm zN_ok hW hZ, hDc.weaken (fun _ _ _ _ => trivial)⟩⟩ rfl rfl hl.1 rfl (lv_room (Nat.le_of_ble_eq_true rfl)) dX2_beginProcess_47 h_19) hS (fun q _ h => hFc q h) hFc (fun r_18 u t H1 locs ht hvm hw_18 hB hz1 hk1 hS => ?_)
  obtain ⟨c0_16, c1_17⟩ := u
  obtain ⟨hP1, hD1⟩ := hB
  rw [ht] at hP1
  try dsimp only at hw_18
  obtain ⟨hP, hD⟩ := va_join (wr := [(va, .inr (6, zf 3 fv)), (h0, .inr (2, zf 19 c0_1)), (pr, .inl (x 9, 24, .inr (.inr (.inr (.inr gp))))), (wk, .inl (x 10, 6, .inr (.inr (.inr (.inr gw))))), (p0, .inr (5, zf 14 c3_2)), (co, .inr (6, zf 3 c4_3)), (ou, .inr (6, zf 3 c5_4)), (na, .inr (3, zf 9 c7_6)), (lg, .inr (6, zf 3 c9_8)), (w0, .inr (10, zf 20 c0_11)), (lv, .inl (x 7, 30, .inr (.inr (.inr (.inr gl))))), (sc, .inr (7, zf 20 c8_7)), (l0, .inr (1, zf 16 c3_12)), (tr, .inr (6, zf 3 c4_13))]) (w1 := [(ow, .inr (8, zf 18 c0_16)), (b, .inl (x 1, 250, .inl c1_17)), (vb, .inl (x 1, 250, .inl gv))]) hP hD [0, 1, 3] [2, 4, 5, 6, 7, 8, 9, 10, 11, 12, 13, 14, 15, 16] rfl rfl (by decide) (by decide) hk1 hFc hP1 hD1
  generalize H1 = H at hP hS ⊢
  have hP : va_P D vwCl [(va, .inr (6, zf 3 fv)), (h0, .inr (2, zf 19 c0_1)), (pr, .inl (x 9, 24, .inr (.inr (.inr (.inr gp))))), (wk, .inl (x 10, 6, .inr (.inr (.inr (.inr gw))))), (p0, .inr (5, zf 14 c3_2)), (co, .inr (6, zf 3 c4_3)), (ou, .inr (6, zf 3 c5_4)), (na, .inr (3, zf 9 c7_6)), (lg, .inr (6, zf 3 c9_8)), (w0, .inr (10, zf 20 c0_11)), (lv, .inl (x 7, 30, .inr (.inr (.inr (.inr gl))))), (sc, .inr (7, zf 20 c8_7)), (l0, .inr (1, zf 16 c3_12)), (tr, .inr (6, zf 3 c4_13)), (ow, .inr (8, zf 18 c0_16)), (b, .inl (x 1, 250, .inl c1_17)), (vb, .inl (x 1, 250, .inl gv))] H := hP
  have hD : va_D A [(va, .inr (6, zf 3 fv)), (h0, .inr (2, zf 19 c0_1)), (pr, .inl (x 9, 24, .inr (.inr (.inr (.inr gp))))), (wk, .inl (x 10, 6, .inr (.inr (.inr (.inr gw))))), (p0, .inr (5, zf 14 c3_2)), (co, .inr (6, zf 3 c4_3)), (ou, .inr (6, zf 3 c5_4)), (na, .inr (3, zf 9 c7_6)), (lg, .inr (6, zf 3 c9_8)), (w0, .inr (10, zf 20 c0_11)), (lv, .inl (x 7, 30, .inr (.inr (.inr (.inr gl))))), (sc, .inr (7, zf 20 c8_7)), (l0, .inr (1, zf 16 c3_12)), (tr, .inr (6, zf 3 c4_13)), (ow, .inr (8, zf 18 c0_16)), (b, .inl (x 1, 250, .inl c1_17)), (vb, .inl (x 1, 250, .inl gv))] := hD
  refine W.widen (k := 0) (n := 0) (by omega) (by omega) ?_
  obtain rfl : r_18 = 1 := hw_18.1
  refine lv_pop hx hb dX2_beginProcess_50 rfl ?_
  refine lv_aload_n hx hb dX2_beginProcess_51 rfl (lv_at hl 0 rfl) ?_
  refine lv_aload_n hx hb dX2_beginProcess_52 rfl (lv_at hl 0 rfl) ?_
  refine z_getN (T := TX1) (N := 16) (ci := 1) hx hb hts (zi_1 _) hown hK hP 12 rfl rfl 14 (by decide) (hZ.2.1 _ zn_132) rfl hw_14.1 dX2_beginProcess_53 ?_
  refine z_putN (T := TX1) (N := 16) (ci := 1) hx hb hts (zi_1 _) hown hK hP hD hS 12 rfl rfl 1 (by decide) (hZ.2.1 _ zn_136) rfl rfl rfl rfl dX2_beginProcess_56 (fun H locs f_20 ek_21 ok_22 hP hD hS => ?_)
  have hP : va_P D vwCl [(va, .inr (6, zf 3 fv)), (h0, .inr (2, zf 19 c0_1)), (pr, .inl (x 9, 24, .inr (.inr (.inr (.inr gp))))), (wk, .inl (x 10, 6, .inr (.inr (.inr (.inr gw))))), (p0, .inr (5, zf 14 c3_2)), (co, .inr (6, zf 3 c4_3)), (ou, .inr (6, zf 3 c5_4)), (na, .inr (3, zf 9 c7_6)), (lg, .inr (6, zf 3 c9_8)), (w0, .inr (10, zf 20 c0_11)), (lv, .inl (x 7, 30, .inr (.inr (.inr (.inr gl))))), (sc, .inr (7, zf 20 c8_7)), (l0, .inr (1, zf 16 f_20)), (tr, .inr (6, zf 3 c4_13)), (ow, .inr (8, zf 18 c0_16)), (b, .inl (x 1, 250, .inl c1_17)), (vb, .inl (x 1, 250, .inl gv))] H := hP
  have hD : va_D A [(va, .inr (6, zf 3 fv)), (h0, .inr (2, zf 19 c0_1)), (pr, .inl (x 9, 24, .inr (.inr (.inr (.inr gp))))), (wk, .inl (x 10, 6, .inr (.inr (.inr (.inr gw))))), (p0, .inr (5, zf 14 c3_2)), (co, .inr (6, zf 3 c4_3)), (ou, .inr (6, zf 3 c5_4)), (na, .inr (3, zf 9 c7_6)), (lg, .inr (6, zf 3 c9_8)), (w0, .inr (10, zf 20 c0_11)), (lv, .inl (x 7, 30, .inr (.inr (.inr (.inr gl))))), (sc, .inr (7, zf 20 c8_7)), (l0, .inr (1, zf 16 f_20)), (tr, .inr (6, zf 3 c4_13)), (ow, .inr (8, zf 18 c0_16)), (b, .inl (x 1, 250, .inl c1_17)), (vb, .inl (x 1, 250, .inl gv))] := hD
  refine lv_aload_n hx hb dX2_beginProcess_59 rfl (lv_at hl 0 rfl) ?_
  refine lv_iconst (v := 0) hx hb dX2_beginProcess_60 (by decide) ?_
  refine z_putN (T := TX1) (N := 16) (ci := 1) hx hb hts (zi_1 _) hown hK hP hD hS 12 rfl rfl 2 (by decide) (hZ.2.1 _ zn_137) rfl rfl rfl rfl dX2_beginProcess_61 (fun H locs f_23 ek_24 ok_25 hP hD hS => ?_)
  have hP : va_P D vwCl [(va, .inr (6, zf 3 fv)), (h0, .inr (2, zf 19 c0_1)), (pr, .inl (x 9, 24, .inr (.inr (.inr (.inr gp))))), (wk, .inl (x 10, 6, .inr (.inr (.inr (.inr gw))))), (p0, .inr (5, zf 14 c3_2)), (co, .inr (6, zf 3 c4_3)), (ou, .inr (6, zf 3 c5_4)), (na, .inr (3, zf 9 c7_6)), (lg, .inr (6, zf 3 c9_8)), (w0, .inr (10, zf 20 c0_11)), (lv, .inl (x 7, 30, .inr (.inr (.inr (.inr gl))))), (sc, .inr (7, zf 20 c8_7)), (l0, .inr (1, zf 16 f_23)), (tr, .inr (6, zf 3 c4_13)), (ow, .inr (8, zf 18 c0_16)), (b, .inl (x 1, 250, .inl c1_17)), (vb, .inl (x 1, 250, .inl gv))] H := hP
  have hD : va_D A [(va, .inr (6, zf 3 fv)), (h0, .inr (2, zf 19 c0_1)), (pr, .inl (x 9, 24, .inr (.inr (.inr (.inr gp))))), (wk, .inl (x 10, 6, .inr (.inr (.inr (.inr gw))))), (p0, .inr (5, zf 14 c3_2)), (co, .inr (6, zf 3 c4_3)), (ou, .inr (6, zf 3 c5_4)), (na, .inr (3, zf 9 c7_6)), (lg, .inr (6, zf 3 c9_8)), (w0, .inr (10, zf 20 c0_11)), (lv, .inl (x 7, 30, .inr (.inr (.inr (.inr gl))))), (sc, .inr (7, zf 20 c8_7)), (l0, .inr (1, zf 16 f_23)), (tr, .inr (6, zf 3 c4_13)), (ow, .inr (8, zf 18 c0_16)), (b, .inl (x 1, 250, .inl c1_17)), (vb, .inl (x 1, 250, .inl gv))] := hD
  refine lv_aload_n hx hb dX2_beginProcess_64 rfl (lv_at hl 1 rfl) ?_
  refine z_getN (T := TX5) (N := 14) (ci := 5) hx hb hts (zi_5 _) hown hK hP 4 rfl rfl 1 (by decide) (hZ.2.1 _ zn_123) rfl hw_9.2.1 dX2_beginProcess_65 ?_
  refine lv_aload_n hx hb dX2_beginProcess_68 rfl (lv_at hl 0 rfl) ?_
  refine z_getN (T := TX1) (N := 16) (ci := 1) hx hb hts (zi_1 _) hown hK hP 12 rfl rfl 14 (by decide) (hZ.2.1 _ zn_132) rfl ((ok_25 14 (by decide)).trans ((ok_22 14 (by decide)).trans hw_14.1)) dX2_beginProcess_69 ?_
  refine z_putN (T := TX10) (N := 20) (ci := 10) hx hb hts (zi_10 _) hown hK hP hD hS 9 rfl rfl 13 (by decide) (hZ.2.1 _ zn_126) rfl rfl rfl rfl dX2_beginProcess_72 (fun H locs f_26 ek_27 ok_28 hP hD hS => ?_)
  have hP : va_P D vwCl [(va, .inr (6, zf 3 fv)), (h0, .inr (2, zf 19 c0_1)), (pr, .inl (x 9, 24, .inr (.inr (.inr (.inr gp))))), (wk, .inl (x 10, 6, .inr (.inr (.inr (.inr gw))))), (p0, .inr (5, zf 14 c3_2)), (co, .inr (6, zf 3 c4_3)), (ou, .inr (6, zf 3 c5_4)), (na, .inr (3, zf 9 c7_6)), (lg, .inr (6, zf 3 c9_8)), (w0, .inr (10, zf 20 f_26)), (lv, .inl (x 7, 30, .inr (.inr (.inr (.inr gl))))), (sc, .inr (7, zf 20 c8_7)), (l0, .inr (1, zf 16 f_23)), (tr, .inr (6, zf 3 c4_13)), (ow, .inr (8, zf 18 c0_16)), (b, .inl (x 1, 250, .inl c1_17)), (vb, .inl (x 1, 250, .inl gv))] H := hP
  have hD : va_D A [(va, .inr (6, zf 3 fv)), (h0, .inr (2, zf 19 c0_1)), (pr, .inl (x 9, 24, .inr (.inr (.inr (.inr gp))))), (wk, .inl (x 10, 6, .inr (.inr (.inr (.inr gw))))), (p0, .inr (5, zf 14 c3_2)), (co, .inr (6, zf 3 c4_3)), (ou, .inr (6, zf 3 c5_4)), (na, .inr (3, zf 9 c7_6)), (lg, .inr (6, zf 3 c9_8)), (w0, .inr (10, zf 20 f_26)), (lv, .inl (x 7, 30, .inr (.inr (.inr (.inr gl))))), (sc, .inr (7, zf 20 c8_7)), (l0, .inr (1, zf 16 f_23)), (tr, .inr (6, zf 3 c4_13)), (ow, .inr (8, zf 18 c0_16)), (b, .inl (x 1, 250, .inl c1_17)), (vb, .inl (x 1, 250, .inl gv))] := hD
  refine lv_aload_n hx hb dX2_beginProcess_75 rfl (lv_at hl 1 rfl) ?_
  refine z_getN (T := TX5) (N := 14) (ci := 5) hx hb hts (zi_5 _) hown hK hP 4 rfl rfl 1 (by decide) (hZ.2.1 _ zn_123) rfl hw_9.2.1 dX2_beginProcess_76 ?_
  refine lv_iconst (v := 0) hx hb dX2_beginProcess_79 (by decide) ?_
  refine z_putN (T := TX10) (N := 20) (ci := 10) hx hb hts (zi_10 _) hown hK hP hD hS 9 rfl rfl 14 (by decide) (hZ.2.1 _ zn_138) rfl rfl rfl rfl dX2_beginProcess_80 (fun H locs f_29 ek_30 ok_31 hP hD hS => ?_)
  have hP : va_P D vwCl [(va, .inr (6, zf 3 fv)), (h0, .inr (2, zf 19 c0_1)), (pr, .inl (x 9, 24, .inr (.inr (.inr (.inr gp))))), (wk, .inl (x 10, 6, .inr (.inr (.inr (.inr gw))))), (p0, .inr (5, zf 14 c3_2)), (co, .inr (6, zf 3 c4_3)), (ou, .inr (6, zf 3 c5_4)), (na, .inr (3, zf 9 c7_6)), (lg, .inr (6, zf 3 c9_8)), (w0, .inr (10, zf 20 f_29)), (lv, .inl (x 7, 30, .inr (.inr (.inr (.inr gl))))), (sc, .inr (7, zf 20 c8_7)), (l0, .inr (1, zf 16 f_23)), (tr, .inr (6, zf 3 c4_13)), (ow, .inr (8, zf 18 c0_16)), (b, .inl (x 1, 250, .inl c1_17)), (vb, .inl (x 1, 250, .inl gv))] H := hP
  have hD : va_D A [(va, .inr (6, zf 3 fv)), (h0, .inr (2, zf 19 c0_1)), (pr, .inl (x 9, 24, .inr (.inr (.inr (.inr gp))))), (wk, .inl (x 10, 6, .inr (.inr (.inr (.inr gw))))), (p0, .inr (5, zf 14 c3_2)), (co, .inr (6, zf 3 c4_3)), (ou, .inr (6, zf 3 c5_4)), (na, .inr (3, zf 9 c7_6)), (lg, .inr (6, zf 3 c9_8)), (w0, .inr (10, zf 20 f_29)), (lv, .inl (x 7, 30, .inr (.inr (.inr (.inr gl))))), (sc, .inr (7, zf 20 c8_7)), (l0, .inr (1, zf 16 f_23)), (tr, .inr (6, zf 3 c4_13)), (ow, .inr (8, zf 18 c0_16)), (b, .inl (x 1, 250, .inl c1_17)), (vb, .inl (x 1, 250, .inl gv))] := hD
  refine lv_aload_n hx hb dX2_beginProcess_83 rfl (lv_at hl 1 rfl) ?_
  have hP9 := hP.sub (ws' := [(p0, .inr (5, zf 14 c3_2)), (w0, .inr (10, zf 20 f_29)), (ow, .inr (8, zf 18 c0_16)), (b, .inl (x 1, 250, .inl c1_17)), (va, .inr (6, zf 3 fv)), (vb, .inl (x 1, 250, .inl gv))]) [4, 9, 14, 15, 0, 16] rfl
  have hD9 := hD.sub (ws' := [(p0, .inr (5, zf 14 c3_2)), (w0, .inr (10, zf 20 f_29)), (ow, .inr (8, zf 18 c0_16)), (b, .inl (x 1, 250, .inl c1_17)), (va, .inr (6, zf 3 fv)), (vb, .inl (x 1, 250, .inl gv))]) [4, 9, 14, 15, 0, 16] (by decide) rfl
  exact W.aret (v := .ref p0) hx hb hr (Or.inl ⟨_, rfl⟩) (Or.inr ⟨_, rfl⟩) (fun t ht hW => ⟨⟨(c3_2, f_29, c0_16, c1_17), _, rfl, ⟨hw_9.1, hw_9.2.1, ((ok_31 13 (by decide)).trans ek_27), hw_18.2.1, hw_18.2.2.1, hw_18.2.2.2.1, hw_18.2.2.2.2.1, hw_18.2.2.2.2.2.1, hw_18.2.2.2.2.2.2.1, hw_18.2.2.2.2.2.2.2.1, hw_18.2.2.2.2.2.2.2.2.1⟩, ⟨rfl, ⟨by rw [ht]; exact hP9, hD9⟩⟩⟩, hS.F ht⟩) hS.2.2 dX2_beginProcess_84

set_option maxHeartbeats 8000000 in
set_option maxRecDepth 100000 in
/-- MumpsHouse.process on a fresh object -/
theorem c_process (l : Launch) (D : va_G) (x : Nat → ClassId) (h0 : Nat) (f0 : Nat → Value) (ho : Nat) (fh : Nat → Value) (ta : Nat) (f8 : Nat → Value) (tb0 : Nat) (g8 : Nat → Int32) (va : Nat) (fv : Nat → Value) (vb : Nat) (gv : Nat → Int32) (sp : Nat) (fs : Nat → Value) (sb : Nat) (jb : Nat → Int32) (scd : Nat) (jc : Nat → Int32) (ss1 : Nat) (j1 : Nat → Int32) (ss2 : Nat) (j2 : Nat → Int32) (ss3 : Nat) (j3 : Nat → Int32) (ss4 : Nat) (j4 : Nat → Int64) (ss5 : Nat) (j5 : Nat → Int32) (ma : Nat) (fm : Nat → Value) (pr : Nat) (gp : Nat → Option Nat) (wk : Nat) (gw : Nat → Option Nat) (p0 : Nat) (fp : Nat → Value) (co : Nat) (f4 : Nat → Value) (ou : Nat) (f5 : Nat → Value) (w0 : Nat) (fw : Nat → Value) (na : Nat) (f1 : Nat → Value) (sc : Nat) (f2 : Nat → Value) (lg : Nat) (f3 : Nat → Value) (lv : Nat) (gl : Nat → Option Nat) (l0 : Nat) (f6 : Nat → Value) (tr : Nat) (f7 : Nat → Value) (ow : Nat) (ft : Nat → Value) (b : Nat) (gb : Nat → Int32) (cd : Nat) (gc : Nat → Int32) (s1 : Nat) (g1 : Nat → Int32) (s2 : Nat) (g2 : Nat → Int32) (s3 : Nat) (g3 : Nat → Int32) (s4 : Nat) (g4 : Nat → Int64) (s5 : Nat) (g5 : Nat → Int32) (sz : Nat) (h0_2 : f0 2 = .ref ho) (h0_3 : f0 3 = .ref ma) (h0_0 : f0 0 = .ref ta) (h0_5 : f0 5 = .ref va) (h1_12 : fh 12 = .int 0) (h1_3 : fh 3 = .ref sp) (h2_0 : f8 0 = .ref tb0) (h2_1 : f8 1 = .int 0) (h4_0 : fv 0 = .ref vb) (h4_1 : fv 1 = .int 0) (h6_0 : fs 0 = .ref sb) (h6_2 : fs 2 = .ref scd) (h6_5 : fs 5 = .ref ss1) (h6_6 : fs 6 = .ref ss2) (h6_7 : fs 7 = .ref ss3) (h6_8 : fs 8 = .ref ss4) (h6_9 : fs 9 = .ref ss5) (h14_4 : fm 4 = .int 0) (h14_3 : fm 3 = .ref pr) (h14_5 : fm 5 = .ref wk) (h15_0 : gp 0 = some p0) (h16_0 : gw 0 = some w0) (h17_12 : fp 12 = .ref co) (h17_13 : fp 13 = .ref ou) (h20_17 : fw 17 = .ref na) (h20_18 : fw 18 = .ref sc) (h20_4 : fw 4 = .ref lv) (h20_13 : fw 13 = .null) (h20_14 : fw 14 = .int 0) (h22_12 : f2 12 = .ref lg) (h24_0 : gl 0 = some l0) (h25_12 : f6 12 = .ref tr) (h25_14 : f6 14 = .ref ow) (h27_0 : ft 0 = .ref b) (h27_2 : ft 2 = .ref cd) (h27_5 : ft 5 = .ref s1) (h27_6 : ft 6 = .ref s2) (h27_7 : ft 7 = .ref s3) (h27_8 : ft 8 = .ref s4) (h27_9 : ft 9 = .ref s5) : Met l yX11_process (.code yX11_process cX11_process 3 (some .int) :: zW) ({ frames := 5, cells := (0), slots := (0), locals := 106 }) (va_Pc [.ref h0] (fun U => U.heap.size = sz ∧ va_P D vwCl [(h0, .inr (11, zf 6 f0)), (ho, .inr (0, zf 18 fh)), (ta, .inr (6, zf 3 f8)), (tb0, .inl (x 1, 4000, .inl g8)), (va, .inr (6, zf 3 fv)), (vb, .inl (x 1, 250, .inl gv)), (sp, .inr (8, zf 18 fs)), (sb, .inl (x 1, 3000, .inl jb)), (scd, .inl (x 0, 6216, .inl jc)), (ss1, .inl (x 0, 100, .inl j1)), (ss2, .inl (x 0, 100, .inl j2)), (ss3, .inl (x 0, 100, .inl j3)), (ss4, .inl (x 2, 100, .inr (.inl j4))), (ss5, .inl (x 0, 100, .inl j5)), (ma, .inr (2, zf 19 fm)), (pr, .inl (x 9, 24, .inr (.inr (.inr (.inr gp))))), (wk, .inl (x 10, 6, .inr (.inr (.inr (.inr gw))))), (p0, .inr (5, zf 14 fp)), (co, .inr (6, zf 3 f4)), (ou, .inr (6, zf 3 f5)), (w0, .inr (10, zf 20 fw)), (na, .inr (3, zf 9 f1)), (sc, .inr (7, zf 20 f2)), (lg, .inr (6, zf 3 f3)), (lv, .inl (x 7, 30, .inr (.inr (.inr (.inr gl))))), (l0, .inr (1, zf 16 f6)), (tr, .inr (6, zf 3 f7)), (ow, .inr (8, zf 18 ft)), (b, .inl (x 1, 250, .inl gb)), (cd, .inl (x 0, 518, .inl gc)), (s1, .inl (x 0, 1, .inl g1)), (s2, .inl (x 0, 1, .inl g2)), (s3, .inl (x 0, 1, .inl g3)), (s4, .inl (x 2, 1, .inr (.inl g4))), (s5, .inl (x 0, 1, .inl g5))] U.heap ∧ zK x D U ∧ va_D (fun _ => True) [(h0, .inr (11, zf 6 f0)), (ho, .inr (0, zf 18 fh)), (ta, .inr (6, zf 3 f8)), (tb0, .inl (x 1, 4000, .inl g8)), (va, .inr (6, zf 3 fv)), (vb, .inl (x 1, 250, .inl gv)), (sp, .inr (8, zf 18 fs)), (sb, .inl (x 1, 3000, .inl jb)), (scd, .inl (x 0, 6216, .inl jc)), (ss1, .inl (x 0, 100, .inl j1)), (ss2, .inl (x 0, 100, .inl j2)), (ss3, .inl (x 0, 100, .inl j3)), (ss4, .inl (x 2, 100, .inr (.inl j4))), (ss5, .inl (x 0, 100, .inl j5)), (ma, .inr (2, zf 19 fm)), (pr, .inl (x 9, 24, .inr (.inr (.inr (.inr gp))))), (wk, .inl (x 10, 6, .inr (.inr (.inr (.inr gw))))), (p0, .inr (5, zf 14 fp)), (co, .inr (6, zf 3 f4)), (ou, .inr (6, zf 3 f5)), (w0, .inr (10, zf 20 fw)), (na, .inr (3, zf 9 f1)), (sc, .inr (7, zf 20 f2)), (lg, .inr (6, zf 3 f3)), (lv, .inl (x 7, 30, .inr (.inr (.inr (.inr gl))))), (l0, .inr (1, zf 16 f6)), (tr, .inr (6, zf 3 f7)), (ow, .inr (8, zf 18 ft)), (b, .inl (x 1, 250, .inl gb)), (cd, .inl (x 0, 518, .inl gc)), (s1, .inl (x 0, 1, .inl g1)), (s2, .inl (x 0, 1, .inl g2)), (s3, .inl (x 0, 1, .inl g3)), (s4, .inl (x 2, 1, .inr (.inl g4))), (s5, .inl (x 0, 1, .inl g5))])) (va_Qi (fun (r : Int32) (u : Unit) => r = 0) (fun u t => True) (va_A [(h0, .inr (11, zf 6 f0)), (ho, .inr (0, zf 18 fh)), (ta, .inr (6, zf 3 f8)), (tb0, .inl (x 1, 4000, .inl g8)), (va, .inr (6, zf 3 fv)), (vb, .inl (x 1, 250, .inl gv)), (sp, .inr (8, zf 18 fs)), (sb, .inl (x 1, 3000, .inl jb)), (scd, .inl (x 0, 6216, .inl jc)), (ss1, .inl (x 0, 100, .inl j1)), (ss2, .inl (x 0, 100, .inl j2)), (ss3, .inl (x 0, 100, .inl j3)), (ss4, .inl (x 2, 100, .inr (.inl j4))), (ss5, .inl (x 0, 100, .inl j5)), (ma, .inr (2, zf 19 fm)), (pr, .inl (x 9, 24, .inr (.inr (.inr (.inr gp))))), (wk, .inl (x 10, 6, .inr (.inr (.inr (.inr gw))))), (p0, .inr (5, zf 14 fp)), (co, .inr (6, zf 3 f4)), (ou, .inr (6, zf 3 f5)), (w0, .inr (10, zf 20 fw)), (na, .inr (3, zf 9 f1)), (sc, .inr (7, zf 20 f2)), (lg, .inr (6, zf 3 f3)), (lv, .inl (x 7, 30, .inr (.inr (.inr (.inr gl))))), (l0, .inr (1, zf 16 f6)), (tr, .inr (6, zf 3 f7)), (ow, .inr (8, zf 18 ft)), (b, .inl (x 1, 250, .inl gb)), (cd, .inl (x 0, 518, .inl gc)), (s1, .inl (x 0, 1, .inl g1)), (s2, .inl (x 0, 1, .inl g2)), (s3, .inl (x 0, 1, .inl g3)), (s4, .inl (x 2, 1, .inr (.inl g4))), (s5, .inl (x 0, 1, .inl g5))] sz)) (0) (0) (va_A [(h0, .inr (11, zf 6 f0)), (ho, .inr (0, zf 18 fh)), (ta, .inr (6, zf 3 f8)), (tb0, .inl (x 1, 4000, .inl g8)), (va, .inr (6, zf 3 fv)), (vb, .inl (x 1, 250, .inl gv)), (sp, .inr (8, zf 18 fs)), (sb, .inl (x 1, 3000, .inl jb)), (scd, .inl (x 0, 6216, .inl jc)), (ss1, .inl (x 0, 100, .inl j1)), (ss2, .inl (x 0, 100, .inl j2)), (ss3, .inl (x 0, 100, .inl j3)), (ss4, .inl (x 2, 100, .inr (.inl j4))), (ss5, .inl (x 0, 100, .inl j5)), (ma, .inr (2, zf 19 fm)), (pr, .inl (x 9, 24, .inr (.inr (.inr (.inr gp))))), (wk, .inl (x 10, 6, .inr (.inr (.inr (.inr gw))))), (p0, .inr (5, zf 14 fp)), (co, .inr (6, zf 3 f4)), (ou, .inr (6, zf 3 f5)), (w0, .inr (10, zf 20 fw)), (na, .inr (3, zf 9 f1)), (sc, .inr (7, zf 20 f2)), (lg, .inr (6, zf 3 f3)), (lv, .inl (x 7, 30, .inr (.inr (.inr (.inr gl))))), (l0, .inr (1, zf 16 f6)), (tr, .inr (6, zf 3 f7)), (ow, .inr (8, zf 18 ft)), (b, .inl (x 1, 250, .inl gb)), (cd, .inl (x 0, 518, .inl gc)), (s1, .inl (x 0, 1, .inl g1)), (s2, .inl (x 0, 1, .inl g2)), (s3, .inl (x 0, 1, .inl g3)), (s4, .inl (x 2, 1, .inr (.inl g4))), (s5, .inl (x 0, 1, .inl g5))] sz) := by
  refine Met.ofW (cc := cX11_process) (maxL := 3) (ret := (some .int)) (by decide) rfl ?_
  intro p e s m args below meth c s₁ B hml hv
  obtain ⟨rfl, hsz, hP, hZ, hD0⟩ := hv
  have hK := hZ.1
  have hx := B.exec
  have hb := B.bytes
  have hr := B.returns
  have hts := atoms_spec (ws := .code yX11_process cX11_process 3 (some .int) :: zW) B.pre
  have hown : s.vm.findClass RX11 = some m.cls := findClass_of_methodNamed B.named
  have hlocks := B.notSynchronized
  subst hsz
  have hD := hD0.self (sz := s.heap.size)
  generalize hAe : va_A [(h0, .inr (11, zf 6 f0)), (ho, .inr (0, zf 18 fh)), (ta, .inr (6, zf 3 f8)), (tb0, .inl (x 1, 4000, .inl g8)), (va, .inr (6, zf 3 fv)), (vb, .inl (x 1, 250, .inl gv)), (sp, .inr (8, zf 18 fs)), (sb, .inl (x 1, 3000, .inl jb)), (scd, .inl (x 0, 6216, .inl jc)), (ss1, .inl (x 0, 100, .inl j1)), (ss2, .inl (x 0, 100, .inl j2)), (ss3, .inl (x 0, 100, .inl j3)), (ss4, .inl (x 2, 100, .inr (.inl j4))), (ss5, .inl (x 0, 100, .inl j5)), (ma, .inr (2, zf 19 fm)), (pr, .inl (x 9, 24, .inr (.inr (.inr (.inr gp))))), (wk, .inl (x 10, 6, .inr (.inr (.inr (.inr gw))))), (p0, .inr (5, zf 14 fp)), (co, .inr (6, zf 3 f4)), (ou, .inr (6, zf 3 f5)), (w0, .inr (10, zf 20 fw)), (na, .inr (3, zf 9 f1)), (sc, .inr (7, zf 20 f2)), (lg, .inr (6, zf 3 f3)), (lv, .inl (x 7, 30, .inr (.inr (.inr (.inr gl))))), (l0, .inr (1, zf 16 f6)), (tr, .inr (6, zf 3 f7)), (ow, .inr (8, zf 18 ft)), (b, .inl (x 1, 250, .inl gb)), (cd, .inl (x 0, 518, .inl gc)), (s1, .inl (x 0, 1, .inl g1)), (s2, .inl (x 0, 1, .inl g2)), (s3, .inl (x 0, 1, .inl g3)), (s4, .inl (x 2, 1, .inr (.inl g4))), (s5, .inl (x 0, 1, .inl g5))] s.heap.size = A at hD ⊢
  have hA : ∀ q : Nat, s.heap.size ≤ q → A q := fun q h => by rw [← hAe]; exact Or.inr h
  have hS : va_S A s.heap s.heap [] := va_S.rf
  have hP : va_P D vwCl [(h0, .inr (11, zf 6 f0)), (ho, .inr (0, zf 18 fh)), (ta, .inr (6, zf 3 f8)), (tb0, .inl (x 1, 4000, .inl g8)), (va, .inr (6, zf 3 fv)), (vb, .inl (x 1, 250, .inl gv)), (sp, .inr (8, zf 18 fs)), (sb, .inl (x 1, 3000, .inl jb)), (scd, .inl (x 0, 6216, .inl jc)), (ss1, .inl (x 0, 100, .inl j1)), (ss2, .inl (x 0, 100, .inl j2)), (ss3, .inl (x 0, 100, .inl j3)), (ss4, .inl (x 2, 100, .inr (.inl j4))), (ss5, .inl (x 0, 100, .inl j5)), (ma, .inr (2, zf 19 fm)), (pr, .inl (x 9, 24, .inr (.inr (.inr (.inr gp))))), (wk, .inl (x 10, 6, .inr (.inr (.inr (.inr gw))))), (p0, .inr (5, zf 14 fp)), (co, .inr (6, zf 3 f4)), (ou, .inr (6, zf 3 f5)), (w0, .inr (10, zf 20 fw)), (na, .inr (3, zf 9 f1)), (sc, .inr (7, zf 20 f2)), (lg, .inr (6, zf 3 f3)), (lv, .inl (x 7, 30, .inr (.inr (.inr (.inr gl))))), (l0, .inr (1, zf 16 f6)), (tr, .inr (6, zf 3 f7)), (ow, .inr (8, zf 18 ft)), (b, .inl (x 1, 250, .inl gb)), (cd, .inl (x 0, 518, .inl gc)), (s1, .inl (x 0, 1, .inl g1)), (s2, .inl (x 0, 1, .inl g2)), (s3, .inl (x 0, 1, .inl g3)), (s4, .inl (x 2, 1, .inr (.inl g4))), (s5, .inl (x 0, 1, .inl g5))] s.heap := hP
  have hl := lv_entry ([.ref h0]) (n := 3) (Nat.le_of_ble_eq_true rfl)
  rw [lg_entry_eq]
  generalize (lg_sl ([.ref h0]) ++ List.replicate (3 - (lg_sl ([.ref h0])).length) Slot.unset).toArray = ls at hl ⊢
  have hl : lv_has ls 3 [(0, .ref h0)] := hl
  refine lv_aload_n hx hb dX11_process_0 rfl (lv_at hl 0 rfl) ?_
  refine z_get (T := TX11) (N := 6) (ci := 11) hx hb hts (zi_11 _) hown hK hP 0 rfl rfl 2 (by decide) (hts _ (zm_175 _)) rfl h0_2 dX11_process_1 ?_
  refine z_getN (T := TX0) (N := 18) (ci := 0) hx hb hts (zi_0 _) hown hK hP 1 rfl rfl 12 (by decide) (hZ.2.1 _ zn_30) rfl h1_12 dX11_process_4 ?_
  refine lv_if_eq (tgt := 13) hx hb dX11_process_7 (by decide) (fun _ => ?_) (fun c9 => absurd (by decide) c9)
  refine lv_aload_n hx hb dX11_process_13 rfl (lv_at hl 0 rfl) ?_
  refine z_get (T := TX11) (N := 6) (ci := 11) hx hb hts (zi_11 _) hown hK hP 0 rfl rfl 0 (by decide) (hts _ (zm_172 _)) rfl h0_0 dX11_process_14 ?_
  refine z_getN (T := TX6) (N := 3) (ci := 6) hx hb hts (zi_6 _) hown hK hP 2 rfl rfl 1 (by decide) (hZ.2.1 _ zn_28) rfl h2_1 dX11_process_17 ?_
  refine lv_istore_n (lv' := [(1, .int 0), (0, .ref h0)]) hx hb dX11_process_20 rfl hl (by decide) rfl (fun ls hl => ?_)
  refine lv_aload_n hx hb dX11_process_21 rfl (lv_at hl 1 rfl) ?_
  refine z_get (T := TX11) (N := 6) (ci := 11) hx hb hts (zi_11 _) hown hK hP 0 rfl rfl 0 (by decide) (hts _ (zm_172 _)) rfl h0_0 dX11_process_22 ?_
  have hPc := hP.sub (ws' := [(ta, .inr (6, zf 3 f8))]) [2] rfl
  have hDc := hD.sub (ws' := [(ta, .inr (6, zf 3 f8))]) [2] (by decide) rfl
  have hFc := va_free (wc := [(ta, .inr (6, zf 3 f8))]) hD hS hA [2] rfl
  have h_2 : 0 + 0 ≤ 0 ∧ 0 + 0 ≤ 0 := by omega
  refine va_callv (va_runVN (As := []) (rest := []) ⟨hx, hb, hml, hown, hts⟩ (c_Row_clear l D x ta f8 tb0 s.heap.size h2_0) ⟨va_cnB 0 hts (zgood (zm_181 _) rfl) rfl rfl rfl (hZ.2.1 _ zn_31) (hts _ (zm_7 _)) ⟨by decide, by decide, by decide +kernel⟩ ⟨Nat.le_of_ble_eq_true rfl, Nat.le_of_ble_eq_true rfl⟩, hts _ (zm_182 _), hts _ (zm_183 _)⟩ ⟨fun a U g mk q => by obtain ⟨q0, q1, qP, qK, qD⟩ := q; exact ⟨q0, q1, qP, ZK.calling (u := U) zN_ok rfl qK, qD⟩, va_recv hK hPc (ci := 6) (q0 := 0) rfl rfl, fun U hU hW => ⟨rfl, by rw [hU], by rw [hU]; exact hPc, ZK.warm zN_ok hW hZ, hDc.weaken (fun _ _ _ _ => trivial)⟩⟩ rfl rfl hl.1 rfl (lv_room (Nat.le_of_ble_eq_true rfl)) dX11_process_25 h_2) hS (fun q _ h => hFc q h) hFc (fun c0_1 t H1 locs ht hvm hw_1 hB hz1 hk1 hS => ?_)
  obtain ⟨hP1, hD1⟩ := hB
  rw [ht] at hP1
  try dsimp only at hw_1
  obtain ⟨hP, hD⟩ := va_join (wr := [(h0, .inr (11, zf 6 f0)), (ho, .inr (0, zf 18 fh)), (tb0, .inl (x 1, 4000, .inl g8)), (va, .inr (6, zf 3 fv)), (vb, .inl (x 1, 250, .inl gv)), (sp, .inr (8, zf 18 fs)), (sb, .inl (x 1, 3000, .inl jb)), (scd, .inl (x 0, 6216, .inl jc)), (ss1, .inl (x 0, 100, .inl j1)), (ss2, .inl (x 0, 100, .inl j2)), (ss3, .inl (x 0, 100, .inl j3)), (ss4, .inl (x 2, 100, .inr (.inl j4))), (ss5, .inl (x 0, 100, .inl j5)), (ma, .inr (2, zf 19 fm)), (pr, .inl (x 9, 24, .inr (.inr (.inr (.inr gp))))), (wk, .inl (x 10, 6, .inr (.inr (.inr (.inr gw))))), (p0, .inr (5, zf 14 fp)), (co, .inr (6, zf 3 f4)), (ou, .inr (6, zf 3 f5)), (w0, .inr (10, zf 20 fw)), (na, .inr (3, zf 9 f1)), (sc, .inr (7, zf 20 f2)), (lg, .inr (6, zf 3 f3)), (lv, .inl (x 7, 30, .inr (.inr (.inr (.inr gl))))), (l0, .inr (1, zf 16 f6)), (tr, .inr (6, zf 3 f7)), (ow, .inr (8, zf 18 ft)), (b, .inl (x 1, 250, .inl gb)), (cd, .inl (x 0, 518, .inl gc)), (s1, .inl (x 0, 1, .inl g1)), (s2, .inl (x 0, 1, .inl g2)), (s3, .inl (x 0, 1, .inl g3)), (s4, .inl (x 2, 1, .inr (.inl g4))), (s5, .inl (x 0, 1, .inl g5))]) (w1 := [(ta, .inr (6, zf 3 c0_1))]) hP hD [2] [0, 1, 3, 4, 5, 6, 7, 8, 9, 10, 11, 12, 13, 14, 15, 16, 17, 18, 19, 20, 21, 22, 23, 24, 25, 26, 27, 28, 29, 30, 31, 32, 33, 34] rfl rfl (by decide) (by decide) hk1 hFc hP1 hD1
  generalize H1 = H at hP hS ⊢
  have hP : va_P D vwCl [(h0, .inr (11, zf 6 f0)), (ho, .inr (0, zf 18 fh)), (tb0, .inl (x 1, 4000, .inl g8)), (va, .inr (6, zf 3 fv)), (vb, .inl (x 1, 250, .inl gv)), (sp, .inr (8, zf 18 fs)), (sb, .inl (x 1, 3000, .inl jb)), (scd, .inl (x 0, 6216, .inl jc)), (ss1, .inl (x 0, 100, .inl j1)), (ss2, .inl (x 0, 100, .inl j2)), (ss3, .inl (x 0, 100, .inl j3)), (ss4, .inl (x 2, 100, .inr (.inl j4))), (ss5, .inl (x 0, 100, .inl j5)), (ma, .inr (2, zf 19 fm)), (pr, .inl (x 9, 24, .inr (.inr (.inr (.inr gp))))), (wk, .inl (x 10, 6, .inr (.inr (.inr (.inr gw))))), (p0, .inr (5, zf 14 fp)), (co, .inr (6, zf 3 f4)), (ou, .inr (6, zf 3 f5)), (w0, .inr (10, zf 20 fw)), (na, .inr (3, zf 9 f1)), (sc, .inr (7, zf 20 f2)), (lg, .inr (6, zf 3 f3)), (lv, .inl (x 7, 30, .inr (.inr (.inr (.inr gl))))), (l0, .inr (1, zf 16 f6)), (tr, .inr (6, zf 3 f7)), (ow, .inr (8, zf 18 ft)), (b, .inl (x 1, 250, .inl gb)), (cd, .inl (x 0, 518, .inl gc)), (s1, .inl (x 0, 1, .inl g1)), (s2, .inl (x 0, 1, .inl g2)), (s3, .inl (x 0, 1, .inl g3)), (s4, .inl (x 2, 1, .inr (.inl g4))), (s5, .inl (x 0, 1, .inl g5)), (ta, .inr (6, zf 3 c0_1))] H := hP
  have hD : va_D A [(h0, .inr (11, zf 6 f0)), (ho, .inr (0, zf 18 fh)), (tb0, .inl (x 1, 4000, .inl g8)), (va, .inr (6, zf 3 fv)), (vb, .inl (x 1, 250, .inl gv)), (sp, .inr (8, zf 18 fs)), (sb, .inl (x 1, 3000, .inl jb)), (scd, .inl (x 0, 6216, .inl jc)), (ss1, .inl (x 0, 100, .inl j1)), (ss2, .inl (x 0, 100, .inl j2)), (ss3, .inl (x 0, 100, .inl j3)), (ss4, .inl (x 2, 100, .inr (.inl j4))), (ss5, .inl (x 0, 100, .inl j5)), (ma, .inr (2, zf 19 fm)), (pr, .inl (x 9, 24, .inr (.inr (.inr (.inr gp))))), (wk, .inl (x 10, 6, .inr (.inr (.inr (.inr gw))))), (p0, .inr (5, zf 14 fp)), (co, .inr (6, zf 3 f4)), (ou, .inr (6, zf 3 f5)), (w0, .inr (10, zf 20 fw)), (na, .inr (3, zf 9 f1)), (sc, .inr (7, zf 20 f2)), (lg, .inr (6, zf 3 f3)), (lv, .inl (x 7, 30, .inr (.inr (.inr (.inr gl))))), (l0, .inr (1, zf 16 f6)), (tr, .inr (6, zf 3 f7)), (ow, .inr (8, zf 18 ft)), (b, .inl (x 1, 250, .inl gb)), (cd, .inl (x 0, 518, .inl gc)), (s1, .inl (x 0, 1, .inl g1)), (s2, .inl (x 0, 1, .inl g2)), (s3, .inl (x 0, 1, .inl g3)), (s4, .inl (x 2, 1, .inr (.inl g4))), (s5, .inl (x 0, 1, .inl g5)), (ta, .inr (6, zf 3 c0_1))] := hD
  refine W.widen (k := 0) (n := 0) (by omega) (by omega) ?_
  refine lv_iload_n hx hb dX11_process_28 rfl (lv_at hl 0 rfl) ?_
  refine lv_sipush (v := 250) hx hb dX11_process_29 (by decide) ?_
  refine lv_icmp_gt (tgt := 71) hx hb dX11_process_32 (by decide) (fun c9 => absurd c9 (by decide)) (fun _ => ?_)
  refine lv_aload_n hx hb dX11_process_35 rfl (lv_at hl 1 rfl) ?_
  refine z_get (T := TX11) (N := 6) (ci := 11) hx hb hts (zi_11 _) hown hK hP 0 rfl rfl 2 (by decide) (hts _ (zm_175 _)) rfl h0_2 dX11_process_36 ?_
  refine z_getN (T := TX0) (N := 18) (ci := 0) hx hb hts (zi_0 _) hown hK hP 1 rfl rfl 3 (by decide) (hZ.2.1 _ zn_33) rfl h1_3 dX11_process_39 ?_
  refine lv_aload_n hx hb dX11_process_42 rfl (lv_at hl 1 rfl) ?_
  refine z_get (T := TX11) (N := 6) (ci := 11) hx hb hts (zi_11 _) hown hK hP 0 rfl rfl 0 (by decide) (hts _ (zm_172 _)) rfl h0_0 dX11_process_43 ?_
  refine z_getN (T := TX6) (N := 3) (ci := 6) hx hb hts (zi_6 _) hown hK hP 34 rfl rfl 0 (by decide) (hZ.2.1 _ zn_32) rfl hw_1.1 dX11_process_46 ?_
  refine lv_iconst (v := 0) hx hb dX11_process_49 (by decide) ?_
  refine lv_iload_n hx hb dX11_process_50 rfl (lv_at hl 0 rfl) ?_
  have hPc := hP.sub (ws' := [(sp, .inr (8, zf 18 fs)), (sb, .inl (x 1, 3000, .inl jb)), (tb0, .inl (x 1, 4000, .inl g8))]) [5, 6, 2] rfl
  have hDc := hD.sub (ws' := [(sp, .inr (8, zf 18 fs)), (sb, .inl (x 1, 3000, .inl jb)), (tb0, .inl (x 1, 4000, .inl g8))]) [5, 6, 2] (by decide) rfl
  have hFc := va_free (wc := [(sp, .inr (8, zf 18 fs)), (sb, .inl (x 1, 3000, .inl jb)), (tb0, .inl (x 1, 4000, .inl g8))]) hD hS hA [5, 6, 2] rfl
  have h_6 : 0 + 0 ≤ 0 ∧ 0 + 0 ≤ 0 := by omega
  refine va_calli (va_runVN (As := [.ref tb0, .int 0, .int 0]) (rest := []) ⟨hx, hb, hml, hown, hts⟩ (c_loadR l D x sp fs sb jb tb0 g8 scd ss1 ss2 ss3 ss4 ss5 H.size h6_0 h6_2 h6_5 h6_6 h6_7 h6_8 h6_9) ⟨va_cnB 3 hts (zgood (zm_377 _) rfl) rfl rfl rfl (hZ.2.1 _ zn_34) (hts _ (zm_37 _)) ⟨by decide, by decide, by decide +kernel⟩ ⟨Nat.le_of_ble_eq_true rfl, Nat.le_of_ble_eq_true rfl⟩, hts _ (zm_378 _), hts _ (zm_379 _)⟩ ⟨fun a U g mk q => by obtain ⟨q0, q1, qP, qK, qD⟩ := q; exact ⟨q0, q1, qP, ZK.calling (u := U) zN_ok rfl qK, qD⟩, va_recv hK hPc (ci := 8) (q0 := 0) rfl rfl, fun U hU hW => ⟨rfl, by rw [hU], by rw [hU]; exact hPc, ZK.warm zN_ok hW hZ, hDc.weaken (fun _ _ _ _ => trivial)⟩⟩ rfl rfl hl.1 rfl (lv_room (Nat.le_of_ble_eq_true rfl)) dX11_process_51 h_6) hS (fun q _ h => hFc q h) hFc (fun r_5 u t H1 locs ht hvm hw_5 hB hz1 hk1 hS => ?_)
  obtain ⟨c0_3, c1_4⟩ := u
  obtain ⟨hP1, hD1⟩ := hB
  rw [ht] at hP1
  try dsimp only at hw_5
  obtain ⟨hP, hD⟩ := va_join (wr := [(h0, .inr (11, zf 6 f0)), (ho, .inr (0, zf 18 fh)), (va, .inr (6, zf 3 fv)), (vb, .inl (x 1, 250, .inl gv)), (scd, .inl (x 0, 6216, .inl jc)), (ss1, .inl (x 0, 100, .inl j1)), (ss2, .inl (x 0, 100, .inl j2)), (ss3, .inl (x 0, 100, .inl j3)), (ss4, .inl (x 2, 100, .inr (.inl j4))), (ss5, .inl (x 0, 100, .inl j5)), (ma, .inr (2, zf 19 fm)), (pr, .inl (x 9, 24, .inr (.inr (.inr (.inr gp))))), (wk, .inl (x 10, 6, .inr (.inr (.inr (.inr gw))))), (p0, .inr (5, zf 14 fp)), (co, .inr (6, zf 3 f4)), (ou, .inr (6, zf 3 f5)), (w0, .inr (10, zf 20 fw)), (na, .inr (3, zf 9 f1)), (sc, .inr (7, zf 20 f2)), (lg, .inr (6, zf 3 f3)), (lv, .inl (x 7, 30, .inr (.inr (.inr (.inr gl))))), (l0, .inr (1, zf 16 f6)), (tr, .inr (6, zf 3 f7)), (ow, .inr (8, zf 18 ft)), (b, .inl (x 1, 250, .inl gb)), (cd, .inl (x 0, 518, .inl gc)), (s1, .inl (x 0, 1, .inl g1)), (s2, .inl (x 0, 1, .inl g2)), (s3, .inl (x 0, 1, .inl g3)), (s4, .inl (x 2, 1, .inr (.inl g4))), (s5, .inl (x 0, 1, .inl g5)), (ta, .inr (6, zf 3 c0_1))]) (w1 := [(sp, .inr (8, zf 18 c0_3)), (sb, .inl (x 1, 3000, .inl c1_4)), (tb0, .inl (x 1, 4000, .inl g8))]) hP hD [5, 6, 2] [0, 1, 3, 4, 7, 8, 9, 10, 11, 12, 13, 14, 15, 16, 17, 18, 19, 20, 21, 22, 23, 24, 25, 26, 27, 28, 29, 30, 31, 32, 33, 34] rfl rfl (by decide) (by decide) hk1 hFc hP1 hD1
  generalize H1 = H at hP hS ⊢
  have hP : va_P D vwCl [(h0, .inr (11, zf 6 f0)), (ho, .inr (0, zf 18 fh)), (va, .inr (6, zf 3 fv)), (vb, .inl (x 1, 250, .inl gv)), (scd, .inl (x 0, 6216, .inl jc)), (ss1, .inl (x 0, 100, .inl j1)), (ss2, .inl (x 0, 100, .inl j2)), (ss3, .inl (x 0, 100, .inl j3)), (ss4, .inl (x 2, 100, .inr (.inl j4))), (ss5, .inl (x 0, 100, .inl j5)), (ma, .inr (2, zf 19 fm)), (pr, .inl (x 9, 24, .inr (.inr (.inr (.inr gp))))), (wk, .inl (x 10, 6, .inr (.inr (.inr (.inr gw))))), (p0, .inr (5, zf 14 fp)), (co, .inr (6, zf 3 f4)), (ou, .inr (6, zf 3 f5)), (w0, .inr (10, zf 20 fw)), (na, .inr (3, zf 9 f1)), (sc, .inr (7, zf 20 f2)), (lg, .inr (6, zf 3 f3)), (lv, .inl (x 7, 30, .inr (.inr (.inr (.inr gl))))), (l0, .inr (1, zf 16 f6)), (tr, .inr (6, zf 3 f7)), (ow, .inr (8, zf 18 ft)), (b, .inl (x 1, 250, .inl gb)), (cd, .inl (x 0, 518, .inl gc)), (s1, .inl (x 0, 1, .inl g1)), (s2, .inl (x 0, 1, .inl g2)), (s3, .inl (x 0, 1, .inl g3)), (s4, .inl (x 2, 1, .inr (.inl g4))), (s5, .inl (x 0, 1, .inl g5)), (ta, .inr (6, zf 3 c0_1)), (sp, .inr (8, zf 18 c0_3)), (sb, .inl (x 1, 3000, .inl c1_4)), (tb0, .inl (x 1, 4000, .inl g8))] H := hP
  have hD : va_D A [(h0, .inr (11, zf 6 f0)), (ho, .inr (0, zf 18 fh)), (va, .inr (6, zf 3 fv)), (vb, .inl (x 1, 250, .inl gv)), (scd, .inl (x 0, 6216, .inl jc)), (ss1, .inl (x 0, 100, .inl j1)), (ss2, .inl (x 0, 100, .inl j2)), (ss3, .inl (x 0, 100, .inl j3)), (ss4, .inl (x 2, 100, .inr (.inl j4))), (ss5, .inl (x 0, 100, .inl j5)), (ma, .inr (2, zf 19 fm)), (pr, .inl (x 9, 24, .inr (.inr (.inr (.inr gp))))), (wk, .inl (x 10, 6, .inr (.inr (.inr (.inr gw))))), (p0, .inr (5, zf 14 fp)), (co, .inr (6, zf 3 f4)), (ou, .inr (6, zf 3 f5)), (w0, .inr (10, zf 20 fw)), (na, .inr (3, zf 9 f1)), (sc, .inr (7, zf 20 f2)), (lg, .inr (6, zf 3 f3)), (lv, .inl (x 7, 30, .inr (.inr (.inr (.inr gl))))), (l0, .inr (1, zf 16 f6)), (tr, .inr (6, zf 3 f7)), (ow, .inr (8, zf 18 ft)), (b, .inl (x 1, 250, .inl gb)), (cd, .inl (x 0, 518, .inl gc)), (s1, .inl (x 0, 1, .inl g1)), (s2, .inl (x 0, 1, .inl g2)), (s3, .inl (x 0, 1, .inl g3)), (s4, .inl (x 2, 1, .inr (.inl g4))), (s5, .inl (x 0, 1, .inl g5)), (ta, .inr (6, zf 3 c0_1)), (sp, .inr (8, zf 18 c0_3)), (sb, .inl (x 1, 3000, .inl c1_4)), (tb0, .inl (x 1, 4000, .inl g8))] := hD
  refine W.widen (k := 0) (n := 0) (by omega) (by omega) ?_
  obtain rfl : r_5 = 1 := hw_5.1
  refine lv_if_eq (tgt := 71) hx hb dX11_process_54 (by decide) (fun c9 => absurd c9 (by decide)) (fun _ => ?_)
  refine lv_aload_n hx hb dX11_process_57 rfl (lv_at hl 1 rfl) ?_
  refine z_get (T := TX11) (N := 6) (ci := 11) hx hb hts (zi_11 _) hown hK hP 0 rfl rfl 2 (by decide) (hts _ (zm_175 _)) rfl h0_2 dX11_process_58 ?_
  refine z_getN (T := TX0) (N := 18) (ci := 0) hx hb hts (zi_0 _) hown hK hP 1 rfl rfl 3 (by decide) (hZ.2.1 _ zn_33) rfl h1_3 dX11_process_61 ?_
  refine lv_iconst (v := 1) hx hb dX11_process_64 (by decide) ?_
  have hPc := hP.sub (ws' := [(sp, .inr (8, zf 18 c0_3)), (scd, .inl (x 0, 6216, .inl jc)), (ss1, .inl (x 0, 100, .inl j1)), (ss2, .inl (x 0, 100, .inl j2)), (ss3, .inl (x 0, 100, .inl j3)), (ss4, .inl (x 2, 100, .inr (.inl j4))), (ss5, .inl (x 0, 100, .inl j5))]) [32, 4, 5, 6, 7, 8, 9] rfl
  have hDc := hD.sub (ws' := [(sp, .inr (8, zf 18 c0_3)), (scd, .inl (x 0, 6216, .inl jc)), (ss1, .inl (x 0, 100, .inl j1)), (ss2, .inl (x 0, 100, .inl j2)), (ss3, .inl (x 0, 100, .inl j3)), (ss4, .inl (x 2, 100, .inr (.inl j4))), (ss5, .inl (x 0, 100, .inl j5))]) [32, 4, 5, 6, 7, 8, 9] (by decide) rfl
  have hFc := va_free (wc := [(sp, .inr (8, zf 18 c0_3)), (scd, .inl (x 0, 6216, .inl jc)), (ss1, .inl (x 0, 100, .inl j1)), (ss2, .inl (x 0, 100, .inl j2)), (ss3, .inl (x 0, 100, .inl j3)), (ss4, .inl (x 2, 100, .inr (.inl j4))), (ss5, .inl (x 0, 100, .inl j5))]) hD hS hA [32, 4, 5, 6, 7, 8, 9] rfl
  have h_15 : 0 + 0 ≤ 0 ∧ 0 + 0 ≤ 0 := by omega
  refine va_calli (va_runVN (As := [.int 1]) (rest := []) ⟨hx, hb, hml, hown, hts⟩ (c_readPieceR l D x sp c0_3 scd jc ss1 j1 ss2 j2 ss3 j3 ss4 j4 ss5 j5 sb H.size hw_5.2.1 hw_5.2.2.1 hw_5.2.2.2.1 hw_5.2.2.2.2.1 hw_5.2.2.2.2.2.1 hw_5.2.2.2.2.2.2.1 hw_5.2.2.2.2.2.2.2.1 hw_5.2.2.2.2.2.2.2.2.1) ⟨va_cnB 1 hts (zgood (zm_383 _) rfl) rfl rfl rfl (hZ.2.1 _ zn_46) (hts _ (zm_37 _)) ⟨by decide, by decide, by decide +kernel⟩ ⟨Nat.le_of_ble_eq_true rfl, Nat.le_of_ble_eq_true rfl⟩, hts _ (zm_384 _), hts _ (zm_385 _)⟩ ⟨fun a U g mk q => by obtain ⟨q0, q1, qP, qK, qD⟩ := q; exact ⟨q0, q1, qP, ZK.calling (u := U) zN_ok rfl qK, qD⟩, va_recv hK hPc (ci := 8) (q0 := 0) rfl rfl, fun U hU hW => ⟨rfl, by rw [hU], by rw [hU]; exact hPc, ZK.warm zN_ok hW hZ, hDc.weaken (fun _ _ _ _ => trivial)⟩⟩ rfl rfl hl.1 rfl (lv_room (Nat.le_of_ble_eq_true rfl)) dX11_process_65 h_15) hS (fun q _ h => hFc q h) hFc (fun r_14 u t H1 locs ht hvm hw_14 hB hz1 hk1 hS => ?_)
  obtain ⟨c0_7, c1_8, c2_9, c3_10, c4_11, c5_12, c6_13⟩ := u
  obtain ⟨hP1, hD1⟩ := hB
  rw [ht] at hP1
  try dsimp only at hw_14
  obtain ⟨hP, hD⟩ := va_join (wr := [(h0, .inr (11, zf 6 f0)), (ho, .inr (0, zf 18 fh)), (va, .inr (6, zf 3 fv)), (vb, .inl (x 1, 250, .inl gv)), (ma, .inr (2, zf 19 fm)), (pr, .inl (x 9, 24, .inr (.inr (.inr (.inr gp))))), (wk, .inl (x 10, 6, .inr (.inr (.inr (.inr gw))))), (p0, .inr (5, zf 14 fp)), (co, .inr (6, zf 3 f4)), (ou, .inr (6, zf 3 f5)), (w0, .inr (10, zf 20 fw)), (na, .inr (3, zf 9 f1)), (sc, .inr (7, zf 20 f2)), (lg, .inr (6, zf 3 f3)), (lv, .inl (x 7, 30, .inr (.inr (.inr (.inr gl))))), (l0, .inr (1, zf 16 f6)), (tr, .inr (6, zf 3 f7)), (ow, .inr (8, zf 18 ft)), (b, .inl (x 1, 250, .inl gb)), (cd, .inl (x 0, 518, .inl gc)), (s1, .inl (x 0, 1, .inl g1)), (s2, .inl (x 0, 1, .inl g2)), (s3, .inl (x 0, 1, .inl g3)), (s4, .inl (x 2, 1, .inr (.inl g4))), (s5, .inl (x 0, 1, .inl g5)), (ta, .inr (6, zf 3 c0_1)), (sb, .inl (x 1, 3000, .inl c1_4)), (tb0, .inl (x 1, 4000, .inl g8))]) (w1 := [(sp, .inr (8, zf 18 c0_7)), (scd, .inl (x 0, 6216, .inl c1_8)), (ss1, .inl (x 0, 100, .inl c2_9)), (ss2, .inl (x 0, 100, .inl c3_10)), (ss3, .inl (x 0, 100, .inl c4_11)), (ss4, .inl (x 2, 100, .inr (.inl c5_12))), (ss5, .inl (x 0, 100, .inl c6_13))]) hP hD [32, 4, 5, 6, 7, 8, 9] [0, 1, 2, 3, 10, 11, 12, 13, 14, 15, 16, 17, 18, 19, 20, 21, 22, 23, 24, 25, 26, 27, 28, 29, 30, 31, 33, 34] rfl rfl (by decide) (by decide) hk1 hFc hP1 hD1
  generalize H1 = H at hP hS ⊢
  have hP : va_P D vwCl [(h0, .inr (11, zf 6 f0)), (ho, .inr (0, zf 18 fh)), (va, .inr (6, zf 3 fv)), (vb, .inl (x 1, 250, .inl gv)), (ma, .inr (2, zf 19 fm)), (pr, .inl (x 9, 24, .inr (.inr (.inr (.inr gp))))), (wk, .inl (x 10, 6, .inr (.inr (.inr (.inr gw))))), (p0, .inr (5, zf 14 fp)), (co, .inr (6, zf 3 f4)), (ou, .inr (6, zf 3 f5)), (w0, .inr (10, zf 20 fw)), (na, .inr (3, zf 9 f1)), (sc, .inr (7, zf 20 f2)), (lg, .inr (6, zf 3 f3)), (lv, .inl (x 7, 30, .inr (.inr (.inr (.inr gl))))), (l0, .inr (1, zf 16 f6)), (tr, .inr (6, zf 3 f7)), (ow, .inr (8, zf 18 ft)), (b, .inl (x 1, 250, .inl gb)), (cd, .inl (x 0, 518, .inl gc)), (s1, .inl (x 0, 1, .inl g1)), (s2, .inl (x 0, 1, .inl g2)), (s3, .inl (x 0, 1, .inl g3)), (s4, .inl (x 2, 1, .inr (.inl g4))), (s5, .inl (x 0, 1, .inl g5)), (ta, .inr (6, zf 3 c0_1)), (sb, .inl (x 1, 3000, .inl c1_4)), (tb0, .inl (x 1, 4000, .inl g8)), (sp, .inr (8, zf 18 c0_7)), (scd, .inl (x 0, 6216, .inl c1_8)), (ss1, .inl (x 0, 100, .inl c2_9)), (ss2, .inl (x 0, 100, .inl c3_10)), (ss3, .inl (x 0, 100, .inl c4_11)), (ss4, .inl (x 2, 100, .inr (.inl c5_12))), (ss5, .inl (x 0, 100, .inl c6_13))] H := hP
  have hD : va_D A [(h0, .inr (11, zf 6 f0)), (ho, .inr (0, zf 18 fh)), (va, .inr (6, zf 3 fv)), (vb, .inl (x 1, 250, .inl gv)), (ma, .inr (2, zf 19 fm)), (pr, .inl (x 9, 24, .inr (.inr (.inr (.inr gp))))), (wk, .inl (x 10, 6, .inr (.inr (.inr (.inr gw))))), (p0, .inr (5, zf 14 fp)), (co, .inr (6, zf 3 f4)), (ou, .inr (6, zf 3 f5)), (w0, .inr (10, zf 20 fw)), (na, .inr (3, zf 9 f1)), (sc, .inr (7, zf 20 f2)), (lg, .inr (6, zf 3 f3)), (lv, .inl (x 7, 30, .inr (.inr (.inr (.inr gl))))), (l0, .inr (1, zf 16 f6)), (tr, .inr (6, zf 3 f7)), (ow, .inr (8, zf 18 ft)), (b, .inl (x 1, 250, .inl gb)), (cd, .inl (x 0, 518, .inl gc)), (s1, .inl (x 0, 1, .inl g1)), (s2, .inl (x 0, 1, .inl g2)), (s3, .inl (x 0, 1, .inl g3)), (s4, .inl (x 2, 1, .inr (.inl g4))), (s5, .inl (x 0, 1, .inl g5)), (ta, .inr (6, zf 3 c0_1)), (sb, .inl (x 1, 3000, .inl c1_4)), (tb0, .inl (x 1, 4000, .inl g8)), (sp, .inr (8, zf 18 c0_7)), (scd, .inl (x 0, 6216, .inl c1_8)), (ss1, .inl (x 0, 100, .inl c2_9)), (ss2, .inl (x 0, 100, .inl c3_10)), (ss3, .inl (x 0, 100, .inl c4_11)), (ss4, .inl (x 2, 100, .inr (.inl c5_12))), (ss5, .inl (x 0, 100, .inl c6_13))] := hD
  refine W.widen (k := 0) (n := 0) (by omega) (by omega) ?_
  obtain rfl : r_14 = 1 := hw_14.1
  refine lv_if_ne (tgt := 74) hx hb dX11_process_68 (by decide) (fun _ => ?_) (fun c9 => absurd c9 (by decide))
  refine lv_aload_n hx hb dX11_process_74 rfl (lv_at hl 1 rfl) ?_
  refine z_get (T := TX11) (N := 6) (ci := 11) hx hb hts (zi_11 _) hown hK hP 0 rfl rfl 5 (by decide) (hts _ (zm_180 _)) rfl h0_5 dX11_process_75 ?_
  have hPc := hP.sub (ws' := [(va, .inr (6, zf 3 fv))]) [2] rfl
  have hDc := hD.sub (ws' := [(va, .inr (6, zf 3 fv))]) [2] (by decide) rfl
  have hFc := va_free (wc := [(va, .inr (6, zf 3 fv))]) hD hS hA [2] rfl
  have h_17 : 0 + 0 ≤ 0 ∧ 0 + 0 ≤ 0 := by omega
  refine va_callv (va_runVN (As := []) (rest := []) ⟨hx, hb, hml, hown, hts⟩ (c_Row_clear l D x va fv vb H.size h4_0) ⟨va_cnB 0 hts (zgood (zm_181 _) rfl) rfl rfl rfl (hZ.2.1 _ zn_31) (hts _ (zm_7 _)) ⟨by decide, by decide, by decide +kernel⟩ ⟨Nat.le_of_ble_eq_true rfl, Nat.le_of_ble_eq_true rfl⟩, hts _ (zm_182 _), hts _ (zm_183 _)⟩ ⟨fun a U g mk q => by obtain ⟨q0, q1, qP, qK, qD⟩ := q; exact ⟨q0, q1, qP, ZK.calling (u := U) zN_ok rfl qK, qD⟩, va_recv hK hPc (ci := 6) (q0 := 0) rfl rfl, fun U hU hW => ⟨rfl, by rw [hU], by rw [hU]; exact hPc, ZK.warm zN_ok hW hZ, hDc.weaken (fun _ _ _ _ => trivial)⟩⟩ rfl rfl hl.1 rfl (lv_room (Nat.le_of_ble_eq_true rfl)) dX11_process_78 h_17) hS (fun q _ h => hFc q h) hFc (fun c0_16 t H1 locs ht hvm hw_16 hB hz1 hk1 hS => ?_)
  obtain ⟨hP1, hD1⟩ := hB
  rw [ht] at hP1
  try dsimp only at hw_16
  obtain ⟨hP, hD⟩ := va_join (wr := [(h0, .inr (11, zf 6 f0)), (ho, .inr (0, zf 18 fh)), (vb, .inl (x 1, 250, .inl gv)), (ma, .inr (2, zf 19 fm)), (pr, .inl (x 9, 24, .inr (.inr (.inr (.inr gp))))), (wk, .inl (x 10, 6, .inr (.inr (.inr (.inr gw))))), (p0, .inr (5, zf 14 fp)), (co, .inr (6, zf 3 f4)), (ou, .inr (6, zf 3 f5)), (w0, .inr (10, zf 20 fw)), (na, .inr (3, zf 9 f1)), (sc, .inr (7, zf 20 f2)), (lg, .inr (6, zf 3 f3)), (lv, .inl (x 7, 30, .inr (.inr (.inr (.inr gl))))), (l0, .inr (1, zf 16 f6)), (tr, .inr (6, zf 3 f7)), (ow, .inr (8, zf 18 ft)), (b, .inl (x 1, 250, .inl gb)), (cd, .inl (x 0, 518, .inl gc)), (s1, .inl (x 0, 1, .inl g1)), (s2, .inl (x 0, 1, .inl g2)), (s3, .inl (x 0, 1, .inl g3)), (s4, .inl (x 2, 1, .inr (.inl g4))), (s5, .inl (x 0, 1, .inl g5)), (ta, .inr (6, zf 3 c0_1)), (sb, .inl (x 1, 3000, .inl c1_4)), (tb0, .inl (x 1, 4000, .inl g8)), (sp, .inr (8, zf 18 c0_7)), (scd, .inl (x 0, 6216, .inl c1_8)), (ss1, .inl (x 0, 100, .inl c2_9)), (ss2, .inl (x 0, 100, .inl c3_10)), (ss3, .inl (x 0, 100, .inl c4_11)), (ss4, .inl (x 2, 100, .inr (.inl c5_12))), (ss5, .inl (x 0, 100, .inl c6_13))]) (w1 := [(va, .inr (6, zf 3 c0_16))]) hP hD [2] [0, 1, 3, 4, 5, 6, 7, 8, 9, 10, 11, 12, 13, 14, 15, 16, 17, 18, 19, 20, 21, 22, 23, 24, 25, 26, 27, 28, 29, 30, 31, 32, 33, 34] rfl rfl (by decide) (by decide) hk1 hFc hP1 hD1
  generalize H1 = H at hP hS ⊢
  have hP : va_P D vwCl [(h0, .inr (11, zf 6 f0)), (ho, .inr (0, zf 18 fh)), (vb, .inl (x 1, 250, .inl gv)), (ma, .inr (2, zf 19 fm)), (pr, .inl (x 9, 24, .inr (.inr (.inr (.inr gp))))), (wk, .inl (x 10, 6, .inr (.inr (.inr (.inr gw))))), (p0, .inr (5, zf 14 fp)), (co, .inr (6, zf 3 f4)), (ou, .inr (6, zf 3 f5)), (w0, .inr (10, zf 20 fw)), (na, .inr (3, zf 9 f1)), (sc, .inr (7, zf 20 f2)), (lg, .inr (6, zf 3 f3)), (lv, .inl (x 7, 30, .inr (.inr (.inr (.inr gl))))), (l0, .inr (1, zf 16 f6)), (tr, .inr (6, zf 3 f7)), (ow, .inr (8, zf 18 ft)), (b, .inl (x 1, 250, .inl gb)), (cd, .inl (x 0, 518, .inl gc)), (s1, .inl (x 0, 1, .inl g1)), (s2, .inl (x 0, 1, .inl g2)), (s3, .inl (x 0, 1, .inl g3)), (s4, .inl (x 2, 1, .inr (.inl g4))), (s5, .inl (x 0, 1, .inl g5)), (ta, .inr (6, zf 3 c0_1)), (sb, .inl (x 1, 3000, .inl c1_4)), (tb0, .inl (x 1, 4000, .inl g8)), (sp, .inr (8, zf 18 c0_7)), (scd, .inl (x 0, 6216, .inl c1_8)), (ss1, .inl (x 0, 100, .inl c2_9)), (ss2, .inl (x 0, 100, .inl c3_10)), (ss3, .inl (x 0, 100, .inl c4_11)), (ss4, .inl (x 2, 100, .inr (.inl c5_12))), (ss5, .inl (x 0, 100, .inl c6_13)), (va, .inr (6, zf 3 c0_16))] H := hP
  have hD : va_D A [(h0, .inr (11, zf 6 f0)), (ho, .inr (0, zf 18 fh)), (vb, .inl (x 1, 250, .inl gv)), (ma, .inr (2, zf 19 fm)), (pr, .inl (x 9, 24, .inr (.inr (.inr (.inr gp))))), (wk, .inl (x 10, 6, .inr (.inr (.inr (.inr gw))))), (p0, .inr (5, zf 14 fp)), (co, .inr (6, zf 3 f4)), (ou, .inr (6, zf 3 f5)), (w0, .inr (10, zf 20 fw)), (na, .inr (3, zf 9 f1)), (sc, .inr (7, zf 20 f2)), (lg, .inr (6, zf 3 f3)), (lv, .inl (x 7, 30, .inr (.inr (.inr (.inr gl))))), (l0, .inr (1, zf 16 f6)), (tr, .inr (6, zf 3 f7)), (ow, .inr (8, zf 18 ft)), (b, .inl (x 1, 250, .inl gb)), (cd, .inl (x 0, 518, .inl gc)), (s1, .inl (x 0, 1, .inl g1)), (s2, .inl (x 0, 1, .inl g2)), (s3, .inl (x 0, 1, .inl g3)), (s4, .inl (x 2, 1, .inr (.inl g4))), (s5, .inl (x 0, 1, .inl g5)), (ta, .inr (6, zf 3 c0_1)), (sb, .inl (x 1, 3000, .inl c1_4)), (tb0, .inl (x 1, 4000, .inl g8)), (sp, .inr (8, zf 18 c0_7)), (scd, .inl (x 0, 6216, .inl c1_8)), (ss1, .inl (x 0, 100, .inl c2_9)), (ss2, .inl (x 0, 100, .inl c3_10)), (ss3, .inl (x 0, 100, .inl c4_11)), (ss4, .inl (x 2, 100, .inr (.inl c5_12))), (ss5, .inl (x 0, 100, .inl c6_13)), (va, .inr (6, zf 3 c0_16))] := hD
  refine W.widen (k := 0) (n := 0) (by omega) (by omega) ?_
  refine lv_aload_n hx hb dX11_process_81 rfl (lv_at hl 1 rfl) ?_
  refine z_get (T := TX11) (N := 6) (ci := 11) hx hb hts (zi_11 _) hown hK hP 0 rfl rfl 5 (by decide) (hts _ (zm_180 _)) rfl h0_5 dX11_process_82 ?_
  refine lv_aload_n hx hb dX11_process_85 rfl (lv_at hl 1 rfl) ?_
  refine z_get (T := TX11) (N := 6) (ci := 11) hx hb hts (zi_11 _) hown hK hP 0 rfl rfl 0 (by decide) (hts _ (zm_172 _)) rfl h0_0 dX11_process_86 ?_
  refine z_getN (T := TX6) (N := 3) (ci := 6) hx hb hts (zi_6 _) hown hK hP 24 rfl rfl 0 (by decide) (hZ.2.1 _ zn_32) rfl hw_1.1 dX11_process_89 ?_
  refine lv_iconst (v := 0) hx hb dX11_process_92 (by decide) ?_
  refine lv_iload_n hx hb dX11_process_93 rfl (lv_at hl 0 rfl) ?_
  have hPc := hP.sub (ws' := [(va, .inr (6, zf 3 c0_16)), (vb, .inl (x 1, 250, .inl gv)), (tb0, .inl (x 1, 4000, .inl g8))]) [34, 2, 26] rfl
  have hDc := hD.sub (ws' := [(va, .inr (6, zf 3 c0_16)), (vb, .inl (x 1, 250, .inl gv)), (tb0, .inl (x 1, 4000, .inl g8))]) [34, 2, 26] (by decide) rfl
  have hFc := va_free (wc := [(va, .inr (6, zf 3 c0_16)), (vb, .inl (x 1, 250, .inl gv)), (tb0, .inl (x 1, 4000, .inl g8))]) hD hS hA [34, 2, 26] rfl
  have h_21 : 0 + 0 ≤ 0 ∧ 0 + 0 ≤ 0 := by omega
  refine va_calli (va_runVN (As := [.ref tb0, .int 0, .int 0]) (rest := []) ⟨hx, hb, hml, hown, hts⟩ (c_addPart0 l D x va c0_16 vb gv tb0 g8 H.size hw_16.1 hw_16.2.1) ⟨va_cnB 3 hts (zgood (zm_192 _) rfl) rfl rfl rfl (hZ.2.1 _ zn_42) (hts _ (zm_7 _)) ⟨by decide, by decide, by decide +kernel⟩ ⟨Nat.le_of_ble_eq_true rfl, Nat.le_of_ble_eq_true rfl⟩, hts _ (zm_193 _), hts _ (zm_194 _)⟩ ⟨fun a U g mk q => by obtain ⟨q0, q1, qP, qK, qD⟩ := q; exact ⟨q0, q1, qP, ZK.calling (u := U) zN_ok rfl qK, qD⟩, va_recv hK hPc (ci := 6) (q0 := 0) rfl rfl, fun U hU hW => ⟨rfl, by rw [hU], by rw [hU]; exact hPc, ZK.warm zN_ok hW hZ, hDc.weaken (fun _ _ _ _ => trivial)⟩⟩ rfl rfl hl.1 rfl (lv_room (Nat.le_of_ble_eq_true rfl)) dX11_process_94 h_21) hS (fun q _ h => hFc q h) hFc (fun r_20 u t H1 locs ht hvm hw_20 hB hz1 hk1 hS => ?_)
  obtain ⟨c0_18, c1_19⟩ := u
  obtain ⟨hP1, hD1⟩ := hB
  rw [ht] at hP1
  try dsimp only at hw_20
  obtain ⟨hP, hD⟩ := va_join (wr := [(h0, .inr (11, zf 6 f0)), (ho, .inr (0, zf 18 fh)), (ma, .inr (2, zf 19 fm)), (pr, .inl (x 9, 24, .inr (.inr (.inr (.inr gp))))), (wk, .inl (x 10, 6, .inr (.inr (.inr (.inr gw))))), (p0, .inr (5, zf 14 fp)), (co, .inr (6, zf 3 f4)), (ou, .inr (6, zf 3 f5)), (w0, .inr (10, zf 20 fw)), (na, .inr (3, zf 9 f1)), (sc, .inr (7, zf 20 f2)), (lg, .inr (6, zf 3 f3)), (lv, .inl (x 7, 30, .inr (.inr (.inr (.inr gl))))), (l0, .inr (1, zf 16 f6)), (tr, .inr (6, zf 3 f7)), (ow, .inr (8, zf 18 ft)), (b, .inl (x 1, 250, .inl gb)), (cd, .inl (x 0, 518, .inl gc)), (s1, .inl (x 0, 1, .inl g1)), (s2, .inl (x 0, 1, .inl g2)), (s3, .inl (x 0, 1, .inl g3)), (s4, .inl (x 2, 1, .inr (.inl g4))), (s5, .inl (x 0, 1, .inl g5)), (ta, .inr (6, zf 3 c0_1)), (sb, .inl (x 1, 3000, .inl c1_4)), (sp, .inr (8, zf 18 c0_7)), (scd, .inl (x 0, 6216, .inl c1_8)), (ss1, .inl (x 0, 100, .inl c2_9)), (ss2, .inl (x 0, 100, .inl c3_10)), (ss3, .inl (x 0, 100, .inl c4_11)), (ss4, .inl (x 2, 100, .inr (.inl c5_12))), (ss5, .inl (x 0, 100, .inl c6_13))]) (w1 := [(va, .inr (6, zf 3 c0_18)), (vb, .inl (x 1, 250, .inl c1_19)), (tb0, .inl (x 1, 4000, .inl g8))]) hP hD [34, 2, 26] [0, 1, 3, 4, 5, 6, 7, 8, 9, 10, 11, 12, 13, 14, 15, 16, 17, 18, 19, 20, 21, 22, 23, 24, 25, 27, 28, 29, 30, 31, 32, 33] rfl rfl (by decide) (by decide) hk1 hFc hP1 hD1
  generalize H1 = H at hP hS ⊢
  have hP : va_P D vwCl [(h0, .inr (11, zf 6 f0)), (ho, .inr (0, zf 18 fh)), (ma, .inr (2, zf 19 fm)), (pr, .inl (x 9, 24, .inr (.inr (.inr (.inr gp))))), (wk, .inl (x 10, 6, .inr (.inr (.inr (.inr gw))))), (p0, .inr (5, zf 14 fp)), (co, .inr (6, zf 3 f4)), (ou, .inr (6, zf 3 f5)), (w0, .inr (10, zf 20 fw)), (na, .inr (3, zf 9 f1)), (sc, .inr (7, zf 20 f2)), (lg, .inr (6, zf 3 f3)), (lv, .inl (x 7, 30, .inr (.inr (.inr (.inr gl))))), (l0, .inr (1, zf 16 f6)), (tr, .inr (6, zf 3 f7)), (ow, .inr (8, zf 18 ft)), (b, .inl (x 1, 250, .inl gb)), (cd, .inl (x 0, 518, .inl gc)), (s1, .inl (x 0, 1, .inl g1)), (s2, .inl (x 0, 1, .inl g2)), (s3, .inl (x 0, 1, .inl g3)), (s4, .inl (x 2, 1, .inr (.inl g4))), (s5, .inl (x 0, 1, .inl g5)), (ta, .inr (6, zf 3 c0_1)), (sb, .inl (x 1, 3000, .inl c1_4)), (sp, .inr (8, zf 18 c0_7)), (scd, .inl (x 0, 6216, .inl c1_8)), (ss1, .inl (x 0, 100, .inl c2_9)), (ss2, .inl (x 0, 100, .inl c3_10)), (ss3, .inl (x 0, 100, .inl c4_11)), (ss4, .inl (x 2, 100, .inr (.inl c5_12))), (ss5, .inl (x 0, 100, .inl c6_13)), (va, .inr (6, zf 3 c0_18)), (vb, .inl (x 1, 250, .inl c1_19)), (tb0, .inl (x 1, 4000, .inl g8))] H := hP
  have hD : va_D A [(h0, .inr (11, zf 6 f0)), (ho, .inr (0, zf 18 fh)), (ma, .inr (2, zf 19 fm)), (pr, .inl (x 9, 24, .inr (.inr (.inr (.inr gp))))), (wk, .inl (x 10, 6, .inr (.inr (.inr (.inr gw))))), (p0, .inr (5, zf 14 fp)), (co, .inr (6, zf 3 f4)), (ou, .inr (6, zf 3 f5)), (w0, .inr (10, zf 20 fw)), (na, .inr (3, zf 9 f1)), (sc, .inr (7, zf 20 f2)), (lg, .inr (6, zf 3 f3)), (lv, .inl (x 7, 30, .inr (.inr (.inr (.inr gl))))), (l0, .inr (1, zf 16 f6)), (tr, .inr (6, zf 3 f7)), (ow, .inr (8, zf 18 ft)), (b, .inl (x 1, 250, .inl gb)), (cd, .inl (x 0, 518, .inl gc)), (s1, .inl (x 0, 1, .inl g1)), (s2, .inl (x 0, 1, .inl g2)), (s3, .inl (x 0, 1, .inl g3)), (s4, .inl (x 2, 1, .inr (.inl g4))), (s5, .inl (x 0, 1, .inl g5)), (ta, .inr (6, zf 3 c0_1)), (sb, .inl (x 1, 3000, .inl c1_4)), (sp, .inr (8, zf 18 c0_7)), (scd, .inl (x 0, 6216, .inl c1_8)), (ss1, .inl (x 0, 100, .inl c2_9)), (ss2, .inl (x 0, 100, .inl c3_10)), (ss3, .inl (x 0, 100, .inl c4_11)), (ss4, .inl (x 2, 100, .inr (.inl c5_12))), (ss5, .inl (x 0, 100, .inl c6_13)), (va, .inr (6, zf 3 c0_18)), (vb, .inl (x 1, 250, .inl c1_19)), (tb0, .inl (x 1, 4000, .inl g8))] := hD
  refine W.widen (k := 0) (n := 0) (by omega) (by omega) ?_
  obtain rfl : r_20 = 1 := hw_20.1
  refine lv_pop hx hb dX11_process_97 rfl ?_
  refine lv_aload_n hx hb dX11_process_98 rfl (lv_at hl 1 rfl) ?_
  refine z_get (T := TX11) (N := 6) (ci := 11) hx hb hts (zi_11 _) hown hK hP 0 rfl rfl 3 (by decide) (hts _ (zm_177 _)) rfl h0_3 dX11_process_99 ?_
  refine lv_aload_n hx hb dX11_process_102 rfl (lv_at hl 1 rfl) ?_
  refine z_get (T := TX11) (N := 6) (ci := 11) hx hb hts (zi_11 _) hown hK hP 0 rfl rfl 5 (by decide) (hts _ (zm_180 _)) rfl h0_5 dX11_process_103 ?_
  have hPc := hP.sub (ws' := [(ma, .inr (2, zf 19 fm)), (pr, .inl (x 9, 24, .inr (.inr (.inr (.inr gp))))), (wk, .inl (x 10, 6, .inr (.inr (.inr (.inr gw))))), (p0, .inr (5, zf 14 fp)), (co, .inr (6, zf 3 f4)), (ou, .inr (6, zf 3 f5)), (w0, .inr (10, zf 20 fw)), (na, .inr (3, zf 9 f1)), (sc, .inr (7, zf 20 f2)), (lg, .inr (6, zf 3 f3)), (lv, .inl (x 7, 30, .inr (.inr (.inr (.inr gl))))), (l0, .inr (1, zf 16 f6)), (tr, .inr (6, zf 3 f7)), (ow, .inr (8, zf 18 ft)), (b, .inl (x 1, 250, .inl gb)), (va, .inr (6, zf 3 c0_18)), (vb, .inl (x 1, 250, .inl c1_19))]) [2, 3, 4, 5, 6, 7, 8, 9, 10, 11, 12, 13, 14, 15, 16, 32, 33] rfl
  have hDc := hD.sub (ws' := [(ma, .inr (2, zf 19 fm)), (pr, .inl (x 9, 24, .inr (.inr (.inr (.inr gp))))), (wk, .inl (x 10, 6, .inr (.inr (.inr (.inr gw))))), (p0, .inr (5, zf 14 fp)), (co, .inr (6, zf 3 f4)), (ou, .inr (6, zf 3 f5)), (w0, .inr (10, zf 20 fw)), (na, .inr (3, zf 9 f1)), (sc, .inr (7, zf 20 f2)), (lg, .inr (6, zf 3 f3)), (lv, .inl (x 7, 30, .inr (.inr (.inr (.inr gl))))), (l0, .inr (1, zf 16 f6)), (tr, .inr (6, zf 3 f7)), (ow, .inr (8, zf 18 ft)), (b, .inl (x 1, 250, .inl gb)), (va, .inr (6, zf 3 c0_18)), (vb, .inl (x 1, 250, .inl c1_19))]) [2, 3, 4, 5, 6, 7, 8, 9, 10, 11, 12, 13, 14, 15, 16, 32, 33] (by decide) rfl
  have hFc := va_free (wc := [(ma, .inr (2, zf 19 fm)), (pr, .inl (x 9, 24, .inr (.inr (.inr (.inr gp))))), (wk, .inl (x 10, 6, .inr (.inr (.inr (.inr gw))))), (p0, .inr (5, zf 14 fp)), (co, .inr (6, zf 3 f4)), (ou, .inr (6, zf 3 f5)), (w0, .inr (10, zf 20 fw)), (na, .inr (3, zf 9 f1)), (sc, .inr (7, zf 20 f2)), (lg, .inr (6, zf 3 f3)), (lv, .inl (x 7, 30, .inr (.inr (.inr (.inr gl))))), (l0, .inr (1, zf 16 f6)), (tr, .inr (6, zf 3 f7)), (ow, .inr (8, zf 18 ft)), (b, .inl (x 1, 250, .inl gb)), (va, .inr (6, zf 3 c0_18)), (vb, .inl (x 1, 250, .inl c1_19))]) hD hS hA [2, 3, 4, 5, 6, 7, 8, 9, 10, 11, 12, 13, 14, 15, 16, 32, 33] rfl
  have h_27 : 0 + 0 ≤ 0 ∧ 0 + 0 ≤ 0 := by omega
  refine va_callr (va_runVN (As := [.ref va]) (rest := []) ⟨hx, hb, hml, hown, hts⟩ (c_beginProcess0 l D x ma fm pr gp wk gw p0 fp co f4 ou f5 w0 fw na f1 sc f2 lg f3 lv gl l0 f6 tr f7 ow ft b gb va c0_18 vb c1_19 cd s1 s2 s3 s4 s5 H.size h14_4 h14_3 h14_5 h15_0 h16_0 h17_12 h17_13 h20_17 h20_18 h20_4 h20_13 h20_14 h22_12 h24_0 h25_12 h25_14 h27_0 h27_2 h27_5 h27_6 h27_7 h27_8 h27_9 hw_20.2.1 hw_20.2.2) ⟨va_cnB 1 hts (zgood (zm_313 _) rfl) rfl rfl rfl (hZ.2.1 _ zn_47) (hts _ (zm_146 _)) ⟨by decide, by decide, by decide +kernel⟩ ⟨Nat.le_of_ble_eq_true rfl, Nat.le_of_ble_eq_true rfl⟩, hts _ (zm_314 _), hts _ (zm_315 _)⟩ ⟨fun a U g mk q => by obtain ⟨q0, q1, qP, qK, qD⟩ := q; exact ⟨q0, q1, qP, ZK.calling (u := U) zN_ok rfl qK, qD⟩, va_recv hK hPc (ci := 2) (q0 := 0) rfl rfl, fun U hU hW => ⟨rfl, by rw [hU], by rw [hU]; exact hPc, ZK.warm zN_ok hW hZ, hDc.weaken (fun _ _ _ _ => trivial)⟩⟩ rfl rfl hl.1 rfl (lv_room (Nat.le_of_ble_eq_true rfl)) dX11_process_106 h_27) hS (fun q _ h => hFc q h) hFc (fun u ra_26 t H1 locs ht hvm hw_26 hB hz1 hk1 hS => ?_)
  obtain ⟨c0_22, c1_23, c2_24, c3_25⟩ := u
  obtain ⟨hra, hP1, hD1⟩ := hB
  subst hra
  rw [ht] at hP1
  try dsimp only at hw_26
  obtain ⟨hP, hD⟩ := va_join (wr := [(h0, .inr (11, zf 6 f0)), (ho, .inr (0, zf 18 fh)), (cd, .inl (x 0, 518, .inl gc)), (s1, .inl (x 0, 1, .inl g1)), (s2, .inl (x 0, 1, .inl g2)), (s3, .inl (x 0, 1, .inl g3)), (s4, .inl (x 2, 1, .inr (.inl g4))), (s5, .inl (x 0, 1, .inl g5)), (ta, .inr (6, zf 3 c0_1)), (sb, .inl (x 1, 3000, .inl c1_4)), (sp, .inr (8, zf 18 c0_7)), (scd, .inl (x 0, 6216, .inl c1_8)), (ss1, .inl (x 0, 100, .inl c2_9)), (ss2, .inl (x 0, 100, .inl c3_10)), (ss3, .inl (x 0, 100, .inl c4_11)), (ss4, .inl (x 2, 100, .inr (.inl c5_12))), (ss5, .inl (x 0, 100, .inl c6_13)), (tb0, .inl (x 1, 4000, .inl g8))]) (w1 := [(p0, .inr (5, zf 14 c0_22)), (w0, .inr (10, zf 20 c1_23)), (ow, .inr (8, zf 18 c2_24)), (b, .inl (x 1, 250, .inl c3_25)), (va, .inr (6, zf 3 c0_18)), (vb, .inl (x 1, 250, .inl c1_19))]) hP hD [2, 3, 4, 5, 6, 7, 8, 9, 10, 11, 12, 13, 14, 15, 16, 32, 33] [0, 1, 17, 18, 19, 20, 21, 22, 23, 24, 25, 26, 27, 28, 29, 30, 31, 34] rfl rfl (by decide) (by decide) hk1 hFc hP1 hD1
  generalize H1 = H at hP hS ⊢
  have hP : va_P D vwCl [(h0, .inr (11, zf 6 f0)), (ho, .inr (0, zf 18 fh)), (cd, .inl (x 0, 518, .inl gc)), (s1, .inl (x 0, 1, .inl g1)), (s2, .inl (x 0, 1, .inl g2)), (s3, .inl (x 0, 1, .inl g3)), (s4, .inl (x 2, 1, .inr (.inl g4))), (s5, .inl (x 0, 1, .inl g5)), (ta, .inr (6, zf 3 c0_1)), (sb, .inl (x 1, 3000, .inl c1_4)), (sp, .inr (8, zf 18 c0_7)), (scd, .inl (x 0, 6216, .inl c1_8)), (ss1, .inl (x 0, 100, .inl c2_9)), (ss2, .inl (x 0, 100, .inl c3_10)), (ss3, .inl (x 0, 100, .inl c4_11)), (ss4, .inl (x 2, 100, .inr (.inl c5_12))), (ss5, .inl (x 0, 100, .inl c6_13)), (tb0, .inl (x 1, 4000, .inl g8)), (p0, .inr (5, zf 14 c0_22)), (w0, .inr (10, zf 20 c1_23)), (ow, .inr (8, zf 18 c2_24)), (b, .inl (x 1, 250, .inl c3_25)), (va, .inr (6, zf 3 c0_18)), (vb, .inl (x 1, 250, .inl c1_19))] H := hP
  have hD : va_D A [(h0, .inr (11, zf 6 f0)), (ho, .inr (0, zf 18 fh)), (cd, .inl (x 0, 518, .inl gc)), (s1, .inl (x 0, 1, .inl g1)), (s2, .inl (x 0, 1, .inl g2)), (s3, .inl (x 0, 1, .inl g3)), (s4, .inl (x 2, 1, .inr (.inl g4))), (s5, .inl (x 0, 1, .inl g5)), (ta, .inr (6, zf 3 c0_1)), (sb, .inl (x 1, 3000, .inl c1_4)), (sp, .inr (8, zf 18 c0_7)), (scd, .inl (x 0, 6216, .inl c1_8)), (ss1, .inl (x 0, 100, .inl c2_9)), (ss2, .inl (x 0, 100, .inl c3_10)), (ss3, .inl (x 0, 100, .inl c4_11)), (ss4, .inl (x 2, 100, .inr (.inl c5_12))), (ss5, .inl (x 0, 100, .inl c6_13)), (tb0, .inl (x 1, 4000, .inl g8)), (p0, .inr (5, zf 14 c0_22)), (w0, .inr (10, zf 20 c1_23)), (ow, .inr (8, zf 18 c2_24)), (b, .inl (x 1, 250, .inl c3_25)), (va, .inr (6, zf 3 c0_18)), (vb, .inl (x 1, 250, .inl c1_19))] := hD
  refine W.widen (k := 0) (n := 0) (by omega) (by omega) ?_
  refine lv_astore_n (lv' := [(2, .ref p0), (1, .int 0), (0, .ref h0)]) hx hb dX11_process_109 rfl hl (by decide) rfl (fun ls hl => ?_)
  refine lv_aload_n hx hb dX11_process_110 rfl (lv_at hl 0 rfl) ?_
  refine lv_ifnull hx hb dX11_process_111 ?_
  refine lv_aload_n hx hb dX11_process_114 rfl (lv_at hl 0 rfl) ?_
  refine z_getN (T := TX5) (N := 14) (ci := 5) hx hb hts (zi_5 _) hown hK hP 18 rfl rfl 1 (by decide) (hZ.2.1 _ zn_48) rfl hw_26.2.1 dX11_process_115 ?_
  refine lv_ifnull hx hb dX11_process_118 ?_
  refine lv_aload_n hx hb dX11_process_121 rfl (lv_at hl 0 rfl) ?_
  refine z_getN (T := TX5) (N := 14) (ci := 5) hx hb hts (zi_5 _) hown hK hP 18 rfl rfl 1 (by decide) (hZ.2.1 _ zn_48) rfl hw_26.2.1 dX11_process_122 ?_
  refine z_getN (T := TX10) (N := 20) (ci := 10) hx hb hts (zi_10 _) hown hK hP 19 rfl rfl 13 (by decide) (hZ.2.1 _ zn_49) rfl hw_26.2.2.1 dX11_process_125 ?_
  refine lv_ifnonnull (tgt := 134) hx hb dX11_process_128 (by decide) ?_
  refine lv_aload_n hx hb dX11_process_134 rfl (lv_at hl 0 rfl) ?_
  refine z_getN (T := TX5) (N := 14) (ci := 5) hx hb hts (zi_5 _) hown hK hP 18 rfl rfl 1 (by decide) (hZ.2.1 _ zn_48) rfl hw_26.2.1 dX11_process_135 ?_
  refine z_getN (T := TX10) (N := 20) (ci := 10) hx hb hts (zi_10 _) hown hK hP 19 rfl rfl 13 (by decide) (hZ.2.1 _ zn_49) rfl hw_26.2.2.1 dX11_process_138 ?_
  refine lv_iconst (v := 1) hx hb dX11_process_141 (by decide) ?_
  have hPc := hP.sub (ws' := [(ow, .inr (8, zf 18 c2_24)), (cd, .inl (x 0, 518, .inl gc)), (s1, .inl (x 0, 1, .inl g1)), (s2, .inl (x 0, 1, .inl g2)), (s3, .inl (x 0, 1, .inl g3)), (s4, .inl (x 2, 1, .inr (.inl g4))), (s5, .inl (x 0, 1, .inl g5))]) [20, 2, 3, 4, 5, 6, 7] rfl
  have hDc := hD.sub (ws' := [(ow, .inr (8, zf 18 c2_24)), (cd, .inl (x 0, 518, .inl gc)), (s1, .inl (x 0, 1, .inl g1)), (s2, .inl (x 0, 1, .inl g2)), (s3, .inl (x 0, 1, .inl g3)), (s4, .inl (x 2, 1, .inr (.inl g4))), (s5, .inl (x 0, 1, .inl g5))]) [20, 2, 3, 4, 5, 6, 7] (by decide) rfl
  have hFc := va_free (wc := [(ow, .inr (8, zf 18 c2_24)), (cd, .inl (x 0, 518, .inl gc)), (s1, .inl (x 0, 1, .inl g1)), (s2, .inl (x 0, 1, .inl g2)), (s3, .inl (x 0, 1, .inl g3)), (s4, .inl (x 2, 1, .inr (.inl g4))), (s5, .inl (x 0, 1, .inl g5))]) hD hS hA [20, 2, 3, 4, 5, 6, 7] rfl
  have h_36 : 0 + 0 ≤ 0 ∧ 0 + 0 ≤ 0 := by omega
  refine va_calli (va_runVN (As := [.int 1]) (rest := []) ⟨hx, hb, hml, hown, hts⟩ (c_readPieceL l D x ow c2_24 cd gc s1 g1 s2 g2 s3 g3 s4 g4 s5 g5 b H.size hw_26.2.2.2.1 hw_26.2.2.2.2.1 hw_26.2.2.2.2.2.1 hw_26.2.2.2.2.2.2.1 hw_26.2.2.2.2.2.2.2.1 hw_26.2.2.2.2.2.2.2.2.1 hw_26.2.2.2.2.2.2.2.2.2.1 hw_26.2.2.2.2.2.2.2.2.2.2) ⟨va_cnB 1 hts (zgood (zm_383 _) rfl) rfl rfl rfl (hZ.2.1 _ zn_46) (hts _ (zm_37 _)) ⟨by decide, by decide, by decide +kernel⟩ ⟨Nat.le_of_ble_eq_true rfl, Nat.le_of_ble_eq_true rfl⟩, hts _ (zm_384 _), hts _ (zm_385 _)⟩ ⟨fun a U g mk q => by obtain ⟨q0, q1, qP, qK, qD⟩ := q; exact ⟨q0, q1, qP, ZK.calling (u := U) zN_ok rfl qK, qD⟩, va_recv hK hPc (ci := 8) (q0 := 0) rfl rfl, fun U hU hW => ⟨rfl, by rw [hU], by rw [hU]; exact hPc, ZK.warm zN_ok hW hZ, hDc.weaken (fun _ _ _ _ => trivial)⟩⟩ rfl rfl hl.1 rfl (lv_room (Nat.le_of_ble_eq_true rfl)) dX11_process_142 h_36) hS (fun q _ h => hFc q h) hFc (fun r_35 u t H1 locs ht hvm hw_35 hB hz1 hk1 hS => ?_)
  obtain ⟨c0_28, c1_29, c2_30, c3_31, c4_32, c5_33, c6_34⟩ := u
  obtain ⟨hP1, hD1⟩ := hB
  rw [ht] at hP1
  try dsimp only at hw_35
  obtain ⟨hP, hD⟩ := va_join (wr := [(h0, .inr (11, zf 6 f0)), (ho, .inr (0, zf 18 fh)), (ta, .inr (6, zf 3 c0_1)), (sb, .inl (x 1, 3000, .inl c1_4)), (sp, .inr (8, zf 18 c0_7)), (scd, .inl (x 0, 6216, .inl c1_8)), (ss1, .inl (x 0, 100, .inl c2_9)), (ss2, .inl (x 0, 100, .inl c3_10)), (ss3, .inl (x 0, 100, .inl c4_11)), (ss4, .inl (x 2, 100, .inr (.inl c5_12))), (ss5, .inl (x 0, 100, .inl c6_13)), (tb0, .inl (x 1, 4000, .inl g8)), (p0, .inr (5, zf 14 c0_22)), (w0, .inr (10, zf 20 c1_23)), (b, .inl (x 1, 250, .inl c3_25)), (va, .inr (6, zf 3 c0_18)), (vb, .inl (x 1, 250, .inl c1_19))]) (w1 := [(ow, .inr (8, zf 18 c0_28)), (cd, .inl (x 0, 518, .inl c1_29)), (s1, .inl (x 0, 1, .inl c2_30)), (s2, .inl (x 0, 1, .inl c3_31)), (s3, .inl (x 0, 1, .inl c4_32)), (s4, .inl (x 2, 1, .inr (.inl c5_33))), (s5, .inl (x 0, 1, .inl c6_34))]) hP hD [20, 2, 3, 4, 5, 6, 7] [0, 1, 8, 9, 10, 11, 12, 13, 14, 15, 16, 17, 18, 19, 21, 22, 23] rfl rfl (by decide) (by decide) hk1 hFc hP1 hD1
  generalize H1 = H at hP hS ⊢
  have hP : va_P D vwCl [(h0, .inr (11, zf 6 f0)), (ho, .inr (0, zf 18 fh)), (ta, .inr (6, zf 3 c0_1)), (sb, .inl (x 1, 3000, .inl c1_4)), (sp, .inr (8, zf 18 c0_7)), (scd, .inl (x 0, 6216, .inl c1_8)), (ss1, .inl (x 0, 100, .inl c2_9)), (ss2, .inl (x 0, 100, .inl c3_10)), (ss3, .inl (x 0, 100, .inl c4_11)), (ss4, .inl (x 2, 100, .inr (.inl c5_12))), (ss5, .inl (x 0, 100, .inl c6_13)), (tb0, .inl (x 1, 4000, .inl g8)), (p0, .inr (5, zf 14 c0_22)), (w0, .inr (10, zf 20 c1_23)), (b, .inl (x 1, 250, .inl c3_25)), (va, .inr (6, zf 3 c0_18)), (vb, .inl (x 1, 250, .inl c1_19)), (ow, .inr (8, zf 18 c0_28)), (cd, .inl (x 0, 518, .inl c1_29)), (s1, .inl (x 0, 1, .inl c2_30)), (s2, .inl (x 0, 1, .inl c3_31)), (s3, .inl (x 0, 1, .inl c4_32)), (s4, .inl (x 2, 1, .inr (.inl c5_33))), (s5, .inl (x 0, 1, .inl c6_34))] H := hP
  have hD : va_D A [(h0, .inr (11, zf 6 f0)), (ho, .inr (0, zf 18 fh)), (ta, .inr (6, zf 3 c0_1)), (sb, .inl (x 1, 3000, .inl c1_4)), (sp, .inr (8, zf 18 c0_7)), (scd, .inl (x 0, 6216, .inl c1_8)), (ss1, .inl (x 0, 100, .inl c2_9)), (ss2, .inl (x 0, 100, .inl c3_10)), (ss3, .inl (x 0, 100, .inl c4_11)), (ss4, .inl (x 2, 100, .inr (.inl c5_12))), (ss5, .inl (x 0, 100, .inl c6_13)), (tb0, .inl (x 1, 4000, .inl g8)), (p0, .inr (5, zf 14 c0_22)), (w0, .inr (10, zf 20 c1_23)), (b, .inl (x 1, 250, .inl c3_25)), (va, .inr (6, zf 3 c0_18)), (vb, .inl (x 1, 250, .inl c1_19)), (ow, .inr (8, zf 18 c0_28)), (cd, .inl (x 0, 518, .inl c1_29)), (s1, .inl (x 0, 1, .inl c2_30)), (s2, .inl (x 0, 1, .inl c3_31)), (s3, .inl (x 0, 1, .inl c4_32)), (s4, .inl (x 2, 1, .inr (.inl c5_33))), (s5, .inl (x 0, 1, .inl c6_34))] := hD
  refine W.widen (k := 0) (n := 0) (by omega) (by omega) ?_
  obtain rfl : r_35 = 1 := hw_35.1
  refine lv_pop hx hb dX11_process_145 rfl ?_
  refine lv_aload_n hx hb dX11_process_146 rfl (lv_at hl 0 rfl) ?_
  refine z_getN (T := TX5) (N := 14) (ci := 5) hx hb hts (zi_5 _) hown hK hP 12 rfl rfl 0 (by decide) (hZ.2.1 _ zn_50) rfl hw_26.1 dX11_process_147 ?_
  exact W.iret (v := 0) hx hb hr (fun t ht hW => ⟨⟨_, (), rfl, rfl, trivial⟩, hS.F ht⟩) hS.2.2 dX11_process_150
