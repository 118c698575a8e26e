theorem zd_M_init_0 : decode zb_M_init 0 = .ok (.aload_n 0, 1) := by decide +kernel
theorem zd_M_init_1 : decode zb_M_init 1 = .ok (.invokespecial 1, 3) := by decide +kernel
theorem zd_M_init_4 : decode zb_M_init 4 = .ok (.aload_n 0, 1) := by decide +kernel
theorem zd_M_init_5 : decode zb_M_init 5 = .ok (.iconst 1, 1) := by decide +kernel
theorem zd_M_init_6 : decode zb_M_init 6 = .ok (.putfield 7, 3) := by decide +kernel
theorem zd_M_init_9 : decode zb_M_init 9 = .ok (.aload_n 0, 1) := by decide +kernel
theorem zd_M_init_10 : decode zb_M_init 10 = .ok (.bipush 24, 2) := by decide +kernel
theorem zd_M_init_12 : decode zb_M_init 12 = .ok (.newarray .int, 2) := by decide +kernel
theorem zd_M_init_14 : decode zb_M_init 14 = .ok (.putfield 13, 3) := by decide +kernel
theorem zd_M_init_17 : decode zb_M_init 17 = .ok (.aload_n 0, 1) := by decide +kernel
theorem zd_M_init_18 : decode zb_M_init 18 = .ok (.bipush 24, 2) := by decide +kernel
theorem zd_M_init_20 : decode zb_M_init 20 = .ok (.newarray .int, 2) := by decide +kernel
theorem zd_M_init_22 : decode zb_M_init 22 = .ok (.putfield 17, 3) := by decide +kernel
theorem zd_M_init_25 : decode zb_M_init 25 = .ok (.aload_n 0, 1) := by decide +kernel
theorem zd_M_init_26 : decode zb_M_init 26 = .ok (.bipush 24, 2) := by decide +kernel
theorem zd_M_init_28 : decode zb_M_init 28 = .ok (.newarray .int, 2) := by decide +kernel
theorem zd_M_init_30 : decode zb_M_init 30 = .ok (.putfield 20, 3) := by decide +kernel
theorem zd_M_init_33 : decode zb_M_init 33 = .ok (.aload_n 0, 1) := by decide +kernel
theorem zd_M_init_34 : decode zb_M_init 34 = .ok (.bipush 24, 2) := by decide +kernel
theorem zd_M_init_36 : decode zb_M_init 36 = .ok (.newarray .boolean, 2) := by decide +kernel
theorem zd_M_init_38 : decode zb_M_init 38 = .ok (.putfield 23, 3) := by decide +kernel
theorem zd_M_init_41 : decode zb_M_init 41 = .ok (.aload_n 0, 1) := by decide +kernel
theorem zd_M_init_42 : decode zb_M_init 42 = .ok (.sipush 1536, 3) := by decide +kernel
theorem zd_M_init_45 : decode zb_M_init 45 = .ok (.newarray .int, 2) := by decide +kernel
theorem zd_M_init_47 : decode zb_M_init 47 = .ok (.putfield 27, 3) := by decide +kernel
theorem zd_M_init_50 : decode zb_M_init 50 = .ok (.aload_n 0, 1) := by decide +kernel
theorem zd_M_init_51 : decode zb_M_init 51 = .ok (.bipush 24, 2) := by decide +kernel
theorem zd_M_init_53 : decode zb_M_init 53 = .ok (.newarray .int, 2) := by decide +kernel
theorem zd_M_init_55 : decode zb_M_init 55 = .ok (.putfield 30, 3) := by decide +kernel
theorem zd_M_init_58 : decode zb_M_init 58 = .ok (.aload_n 0, 1) := by decide +kernel
theorem zd_M_init_59 : decode zb_M_init 59 = .ok (.bipush 24, 2) := by decide +kernel
theorem zd_M_init_61 : decode zb_M_init 61 = .ok (.newarray .int, 2) := by decide +kernel
theorem zd_M_init_63 : decode zb_M_init 63 = .ok (.putfield 33, 3) := by decide +kernel
theorem zd_M_init_66 : decode zb_M_init 66 = .ok (.aload_n 0, 1) := by decide +kernel
theorem zd_M_init_67 : decode zb_M_init 67 = .ok (.bipush 24, 2) := by decide +kernel
theorem zd_M_init_69 : decode zb_M_init 69 = .ok (.newarray .int, 2) := by decide +kernel
theorem zd_M_init_71 : decode zb_M_init 71 = .ok (.putfield 36, 3) := by decide +kernel
theorem zd_M_init_74 : decode zb_M_init 74 = .ok (.aload_n 0, 1) := by decide +kernel
theorem zd_M_init_75 : decode zb_M_init 75 = .ok (.bipush 24, 2) := by decide +kernel
theorem zd_M_init_77 : decode zb_M_init 77 = .ok (.newarray .boolean, 2) := by decide +kernel
theorem zd_M_init_79 : decode zb_M_init 79 = .ok (.putfield 39, 3) := by decide +kernel
theorem zd_M_init_82 : decode zb_M_init 82 = .ok (.aload_n 0, 1) := by decide +kernel
theorem zd_M_init_83 : decode zb_M_init 83 = .ok (.sipush 1536, 3) := by decide +kernel
theorem zd_M_init_86 : decode zb_M_init 86 = .ok (.newarray .int, 2) := by decide +kernel
theorem zd_M_init_88 : decode zb_M_init 88 = .ok (.putfield 42, 3) := by decide +kernel
theorem zd_M_init_91 : decode zb_M_init 91 = .ok (.return_, 1) := by decide +kernel
theorem zd_M_is_0 : decode zb_M_is 0 = .ok (.aload_n 0, 1) := by decide +kernel
theorem zd_M_is_1 : decode zb_M_is 1 = .ok (.getfield 7, 3) := by decide +kernel
theorem zd_M_is_4 : decode zb_M_is 4 = .ok (.ifCond .eq 26, 3) := by decide +kernel
theorem zd_M_is_7 : decode zb_M_is 7 = .ok (.iload_n 1, 1) := by decide +kernel
theorem zd_M_is_8 : decode zb_M_is 8 = .ok (.ifCond .lt 22, 3) := by decide +kernel
theorem zd_M_is_11 : decode zb_M_is 11 = .ok (.iload_n 1, 1) := by decide +kernel
theorem zd_M_is_12 : decode zb_M_is 12 = .ok (.bipush 24, 2) := by decide +kernel
theorem zd_M_is_14 : decode zb_M_is 14 = .ok (.if_icmp .ge 16, 3) := by decide +kernel
theorem zd_M_is_17 : decode zb_M_is 17 = .ok (.aload_n 0, 1) := by decide +kernel
theorem zd_M_is_18 : decode zb_M_is 18 = .ok (.getfield 13, 3) := by decide +kernel
theorem zd_M_is_21 : decode zb_M_is 21 = .ok (.iload_n 1, 1) := by decide +kernel
theorem zd_M_is_22 : decode zb_M_is 22 = .ok (.iaload, 1) := by decide +kernel
theorem zd_M_is_23 : decode zb_M_is 23 = .ok (.ifCond .le 7, 3) := by decide +kernel
theorem zd_M_is_26 : decode zb_M_is 26 = .ok (.iconst 1, 1) := by decide +kernel
theorem zd_M_is_27 : decode zb_M_is 27 = .ok (.goto 4, 3) := by decide +kernel
theorem zd_M_is_30 : decode zb_M_is 30 = .ok (.iconst 0, 1) := by decide +kernel
theorem zd_M_is_31 : decode zb_M_is 31 = .ok (.ireturn, 1) := by decide +kernel
theorem zd_M_isName_0 : decode zb_M_isName 0 = .ok (.iload_n 0, 1) := by decide +kernel
theorem zd_M_isName_1 : decode zb_M_isName 1 = .ok (.ifCond .lt 14, 3) := by decide +kernel
theorem zd_M_isName_4 : decode zb_M_isName 4 = .ok (.iload_n 0, 1) := by decide +kernel
theorem zd_M_isName_5 : decode zb_M_isName 5 = .ok (.sipush 9999, 3) := by decide +kernel
theorem zd_M_isName_8 : decode zb_M_isName 8 = .ok (.if_icmp .gt 7, 3) := by decide +kernel
theorem zd_M_isName_11 : decode zb_M_isName 11 = .ok (.iconst 1, 1) := by decide +kernel
theorem zd_M_isName_12 : decode zb_M_isName 12 = .ok (.goto 4, 3) := by decide +kernel
theorem zd_M_isName_15 : decode zb_M_isName 15 = .ok (.iconst 0, 1) := by decide +kernel
theorem zd_M_isName_16 : decode zb_M_isName 16 = .ok (.ireturn, 1) := by decide +kernel
theorem zd_M_named_0 : decode zb_M_named 0 = .ok (.iconst (-1), 1) := by decide +kernel
theorem zd_M_named_1 : decode zb_M_named 1 = .ok (.istore_n 2, 1) := by decide +kernel
theorem zd_M_named_2 : decode zb_M_named 2 = .ok (.iconst 0, 1) := by decide +kernel
theorem zd_M_named_3 : decode zb_M_named 3 = .ok (.istore_n 3, 1) := by decide +kernel
theorem zd_M_named_4 : decode zb_M_named 4 = .ok (.iload_n 3, 1) := by decide +kernel
theorem zd_M_named_5 : decode zb_M_named 5 = .ok (.bipush 24, 2) := by decide +kernel
theorem zd_M_named_7 : decode zb_M_named 7 = .ok (.if_icmp .ge 42, 3) := by decide +kernel
theorem zd_M_named_10 : decode zb_M_named 10 = .ok (.iload_n 1, 1) := by decide +kernel
theorem zd_M_named_11 : decode zb_M_named 11 = .ok (.invokestatic 45, 3) := by decide +kernel
theorem zd_M_named_14 : decode zb_M_named 14 = .ok (.ifCond .eq 27, 3) := by decide +kernel
theorem zd_M_named_17 : decode zb_M_named 17 = .ok (.aload_n 0, 1) := by decide +kernel
theorem zd_M_named_18 : decode zb_M_named 18 = .ok (.iload_n 3, 1) := by decide +kernel
theorem zd_M_named_19 : decode zb_M_named 19 = .ok (.invokevirtual 49, 3) := by decide +kernel
theorem zd_M_named_22 : decode zb_M_named 22 = .ok (.ifCond .eq 19, 3) := by decide +kernel
theorem zd_M_named_25 : decode zb_M_named 25 = .ok (.aload_n 0, 1) := by decide +kernel
theorem zd_M_named_26 : decode zb_M_named 26 = .ok (.getfield 13, 3) := by decide +kernel
theorem zd_M_named_29 : decode zb_M_named 29 = .ok (.iload_n 3, 1) := by decide +kernel
theorem zd_M_named_30 : decode zb_M_named 30 = .ok (.iaload, 1) := by decide +kernel
theorem zd_M_named_31 : decode zb_M_named 31 = .ok (.iload_n 1, 1) := by decide +kernel
theorem zd_M_named_32 : decode zb_M_named 32 = .ok (.iconst 1, 1) := by decide +kernel
theorem zd_M_named_33 : decode zb_M_named 33 = .ok (.iadd, 1) := by decide +kernel
theorem zd_M_named_34 : decode zb_M_named 34 = .ok (.if_icmp .ne 7, 3) := by decide +kernel
theorem zd_M_named_37 : decode zb_M_named 37 = .ok (.iload_n 3, 1) := by decide +kernel
theorem zd_M_named_38 : decode zb_M_named 38 = .ok (.goto 4, 3) := by decide +kernel
theorem zd_M_named_41 : decode zb_M_named 41 = .ok (.iload_n 2, 1) := by decide +kernel
theorem zd_M_named_42 : decode zb_M_named 42 = .ok (.istore_n 2, 1) := by decide +kernel
theorem zd_M_named_43 : decode zb_M_named 43 = .ok (.iinc 3 1, 3) := by decide +kernel
theorem zd_M_named_46 : decode zb_M_named 46 = .ok (.goto (-42), 3) := by decide +kernel
theorem zd_M_named_49 : decode zb_M_named 49 = .ok (.iload_n 2, 1) := by decide +kernel
theorem zd_M_named_50 : decode zb_M_named 50 = .ok (.ireturn, 1) := by decide +kernel
theorem zd_M_left_0 : decode zb_M_left 0 = .ok (.sipush 200, 3) := by decide +kernel
theorem zd_M_left_3 : decode zb_M_left 3 = .ok (.istore_n 1, 1) := by decide +kernel
theorem zd_M_left_4 : decode zb_M_left 4 = .ok (.iconst 0, 1) := by decide +kernel
theorem zd_M_left_5 : decode zb_M_left 5 = .ok (.istore_n 2, 1) := by decide +kernel
theorem zd_M_left_6 : decode zb_M_left 6 = .ok (.iload_n 2, 1) := by decide +kernel
theorem zd_M_left_7 : decode zb_M_left 7 = .ok (.bipush 24, 2) := by decide +kernel
theorem zd_M_left_9 : decode zb_M_left 9 = .ok (.if_icmp .ge 31, 3) := by decide +kernel
theorem zd_M_left_12 : decode zb_M_left 12 = .ok (.iload_n 1, 1) := by decide +kernel
theorem zd_M_left_13 : decode zb_M_left 13 = .ok (.aload_n 0, 1) := by decide +kernel
theorem zd_M_left_14 : decode zb_M_left 14 = .ok (.getfield 13, 3) := by decide +kernel
theorem zd_M_left_17 : decode zb_M_left 17 = .ok (.iload_n 2, 1) := by decide +kernel
theorem zd_M_left_18 : decode zb_M_left 18 = .ok (.iaload, 1) := by decide +kernel
theorem zd_M_left_19 : decode zb_M_left 19 = .ok (.ifCond .le 12, 3) := by decide +kernel
theorem zd_M_left_22 : decode zb_M_left 22 = .ok (.aload_n 0, 1) := by decide +kernel
theorem zd_M_left_23 : decode zb_M_left 23 = .ok (.getfield 20, 3) := by decide +kernel
theorem zd_M_left_26 : decode zb_M_left 26 = .ok (.iload_n 2, 1) := by decide +kernel
theorem zd_M_left_27 : decode zb_M_left 27 = .ok (.iaload, 1) := by decide +kernel
theorem zd_M_left_28 : decode zb_M_left 28 = .ok (.goto 4, 3) := by decide +kernel
theorem zd_M_left_31 : decode zb_M_left 31 = .ok (.iconst 0, 1) := by decide +kernel
theorem zd_M_left_32 : decode zb_M_left 32 = .ok (.isub, 1) := by decide +kernel
theorem zd_M_left_33 : decode zb_M_left 33 = .ok (.istore_n 1, 1) := by decide +kernel
theorem zd_M_left_34 : decode zb_M_left 34 = .ok (.iinc 2 1, 3) := by decide +kernel
theorem zd_M_left_37 : decode zb_M_left 37 = .ok (.goto (-31), 3) := by decide +kernel
theorem zd_M_left_40 : decode zb_M_left 40 = .ok (.iload_n 1, 1) := by decide +kernel
theorem zd_M_left_41 : decode zb_M_left 41 = .ok (.ireturn, 1) := by decide +kernel
theorem zd_M_create_0 : decode zb_M_create 0 = .ok (.aload_n 0, 1) := by decide +kernel
theorem zd_M_create_1 : decode zb_M_create 1 = .ok (.getfield 7, 3) := by decide +kernel
theorem zd_M_create_4 : decode zb_M_create 4 = .ok (.ifCond .eq 28, 3) := by decide +kernel
theorem zd_M_create_7 : decode zb_M_create 7 = .ok (.iload_n 1, 1) := by decide +kernel
theorem zd_M_create_8 : decode zb_M_create 8 = .ok (.invokestatic 45, 3) := by decide +kernel
theorem zd_M_create_11 : decode zb_M_create 11 = .ok (.ifCond .eq 21, 3) := by decide +kernel
theorem zd_M_create_14 : decode zb_M_create 14 = .ok (.iload_n 2, 1) := by decide +kernel
theorem zd_M_create_15 : decode zb_M_create 15 = .ok (.ifCond .lt 17, 3) := by decide +kernel
theorem zd_M_create_18 : decode zb_M_create 18 = .ok (.iload_n 2, 1) := by decide +kernel
theorem zd_M_create_19 : decode zb_M_create 19 = .ok (.iconst 3, 1) := by decide +kernel
theorem zd_M_create_20 : decode zb_M_create 20 = .ok (.if_icmp .gt 12, 3) := by decide +kernel
theorem zd_M_create_23 : decode zb_M_create 23 = .ok (.aload_n 0, 1) := by decide +kernel
theorem zd_M_create_24 : decode zb_M_create 24 = .ok (.iload_n 1, 1) := by decide +kernel
theorem zd_M_create_25 : decode zb_M_create 25 = .ok (.invokevirtual 52, 3) := by decide +kernel
theorem zd_M_create_28 : decode zb_M_create 28 = .ok (.iconst (-1), 1) := by decide +kernel
theorem zd_M_create_29 : decode zb_M_create 29 = .ok (.if_icmp .eq 5, 3) := by decide +kernel
theorem zd_M_create_32 : decode zb_M_create 32 = .ok (.iconst (-1), 1) := by decide +kernel
theorem zd_M_create_33 : decode zb_M_create 33 = .ok (.ireturn, 1) := by decide +kernel
theorem zd_M_create_34 : decode zb_M_create 34 = .ok (.iconst 0, 1) := by decide +kernel
theorem zd_M_create_35 : decode zb_M_create 35 = .ok (.istore_n 3, 1) := by decide +kernel
theorem zd_M_create_36 : decode zb_M_create 36 = .ok (.iload_n 3, 1) := by decide +kernel
theorem zd_M_create_37 : decode zb_M_create 37 = .ok (.bipush 24, 2) := by decide +kernel
theorem zd_M_create_39 : decode zb_M_create 39 = .ok (.if_icmp .ge 18, 3) := by decide +kernel
theorem zd_M_create_42 : decode zb_M_create 42 = .ok (.aload_n 0, 1) := by decide +kernel
theorem zd_M_create_43 : decode zb_M_create 43 = .ok (.getfield 13, 3) := by decide +kernel
theorem zd_M_create_46 : decode zb_M_create 46 = .ok (.iload_n 3, 1) := by decide +kernel
theorem zd_M_create_47 : decode zb_M_create 47 = .ok (.iaload, 1) := by decide +kernel
theorem zd_M_create_48 : decode zb_M_create 48 = .ok (.ifCond .le 9, 3) := by decide +kernel
theorem zd_M_create_51 : decode zb_M_create 51 = .ok (.iinc 3 1, 3) := by decide +kernel
theorem zd_M_create_54 : decode zb_M_create 54 = .ok (.goto (-18), 3) := by decide +kernel
theorem zd_M_create_57 : decode zb_M_create 57 = .ok (.iload_n 3, 1) := by decide +kernel
theorem zd_M_create_58 : decode zb_M_create 58 = .ok (.bipush 24, 2) := by decide +kernel
theorem zd_M_create_60 : decode zb_M_create 60 = .ok (.if_icmp .ne 5, 3) := by decide +kernel
theorem zd_M_create_63 : decode zb_M_create 63 = .ok (.iconst (-1), 1) := by decide +kernel
theorem zd_M_create_64 : decode zb_M_create 64 = .ok (.ireturn, 1) := by decide +kernel
theorem zd_M_create_65 : decode zb_M_create 65 = .ok (.aload_n 0, 1) := by decide +kernel
theorem zd_M_create_66 : decode zb_M_create 66 = .ok (.getfield 13, 3) := by decide +kernel
theorem zd_M_create_69 : decode zb_M_create 69 = .ok (.iload_n 3, 1) := by decide +kernel
theorem zd_M_create_70 : decode zb_M_create 70 = .ok (.iload_n 1, 1) := by decide +kernel
theorem zd_M_create_71 : decode zb_M_create 71 = .ok (.iconst 1, 1) := by decide +kernel
theorem zd_M_create_72 : decode zb_M_create 72 = .ok (.iadd, 1) := by decide +kernel
theorem zd_M_create_73 : decode zb_M_create 73 = .ok (.iastore, 1) := by decide +kernel
theorem zd_M_create_74 : decode zb_M_create 74 = .ok (.aload_n 0, 1) := by decide +kernel
theorem zd_M_create_75 : decode zb_M_create 75 = .ok (.getfield 17, 3) := by decide +kernel
theorem zd_M_create_78 : decode zb_M_create 78 = .ok (.iload_n 3, 1) := by decide +kernel
theorem zd_M_create_79 : decode zb_M_create 79 = .ok (.iload_n 2, 1) := by decide +kernel
theorem zd_M_create_80 : decode zb_M_create 80 = .ok (.iastore, 1) := by decide +kernel
theorem zd_M_create_81 : decode zb_M_create 81 = .ok (.aload_n 0, 1) := by decide +kernel
theorem zd_M_create_82 : decode zb_M_create 82 = .ok (.getfield 20, 3) := by decide +kernel
theorem zd_M_create_85 : decode zb_M_create 85 = .ok (.iload_n 3, 1) := by decide +kernel
theorem zd_M_create_86 : decode zb_M_create 86 = .ok (.iconst 0, 1) := by decide +kernel
theorem zd_M_create_87 : decode zb_M_create 87 = .ok (.iastore, 1) := by decide +kernel
theorem zd_M_create_88 : decode zb_M_create 88 = .ok (.aload_n 0, 1) := by decide +kernel
theorem zd_M_create_89 : decode zb_M_create 89 = .ok (.getfield 23, 3) := by decide +kernel
theorem zd_M_create_92 : decode zb_M_create 92 = .ok (.iload_n 3, 1) := by decide +kernel
theorem zd_M_create_93 : decode zb_M_create 93 = .ok (.iconst 1, 1) := by decide +kernel
theorem zd_M_create_94 : decode zb_M_create 94 = .ok (.bastore, 1) := by decide +kernel
theorem zd_M_create_95 : decode zb_M_create 95 = .ok (.iload_n 3, 1) := by decide +kernel
theorem zd_M_create_96 : decode zb_M_create 96 = .ok (.ireturn, 1) := by decide +kernel
theorem zd_M_append_0 : decode zb_M_append 0 = .ok (.aload_n 0, 1) := by decide +kernel
theorem zd_M_append_1 : decode zb_M_append 1 = .ok (.iload_n 1, 1) := by decide +kernel
theorem zd_M_append_2 : decode zb_M_append 2 = .ok (.iload_n 2, 1) := by decide +kernel
theorem zd_M_append_3 : decode zb_M_append 3 = .ok (.iconst 1, 1) := by decide +kernel
theorem zd_M_append_4 : decode zb_M_append 4 = .ok (.invokevirtual 56, 3) := by decide +kernel
theorem zd_M_append_7 : decode zb_M_append 7 = .ok (.ireturn, 1) := by decide +kernel
theorem zd_M_appendRow_0 : decode zb_M_appendRow 0 = .ok (.aload_n 0, 1) := by decide +kernel
theorem zd_M_appendRow_1 : decode zb_M_appendRow 1 = .ok (.iload_n 1, 1) := by decide +kernel
theorem zd_M_appendRow_2 : decode zb_M_appendRow 2 = .ok (.invokevirtual 49, 3) := by decide +kernel
theorem zd_M_appendRow_5 : decode zb_M_appendRow 5 = .ok (.ifCond .eq 38, 3) := by decide +kernel
theorem zd_M_appendRow_8 : decode zb_M_appendRow 8 = .ok (.aload_n 0, 1) := by decide +kernel
theorem zd_M_appendRow_9 : decode zb_M_appendRow 9 = .ok (.getfield 23, 3) := by decide +kernel
theorem zd_M_appendRow_12 : decode zb_M_appendRow 12 = .ok (.iload_n 1, 1) := by decide +kernel
theorem zd_M_appendRow_13 : decode zb_M_appendRow 13 = .ok (.baload, 1) := by decide +kernel
theorem zd_M_appendRow_14 : decode zb_M_appendRow 14 = .ok (.ifCond .eq 29, 3) := by decide +kernel
theorem zd_M_appendRow_17 : decode zb_M_appendRow 17 = .ok (.iload_n 3, 1) := by decide +kernel
theorem zd_M_appendRow_18 : decode zb_M_appendRow 18 = .ok (.iconst 1, 1) := by decide +kernel
theorem zd_M_appendRow_19 : decode zb_M_appendRow 19 = .ok (.if_icmp .lt 24, 3) := by decide +kernel
theorem zd_M_appendRow_22 : decode zb_M_appendRow 22 = .ok (.iload_n 3, 1) := by decide +kernel
theorem zd_M_appendRow_23 : decode zb_M_appendRow 23 = .ok (.bipush 64, 2) := by decide +kernel
theorem zd_M_appendRow_25 : decode zb_M_appendRow 25 = .ok (.aload_n 0, 1) := by decide +kernel
theorem zd_M_appendRow_26 : decode zb_M_appendRow 26 = .ok (.getfield 20, 3) := by decide +kernel
theorem zd_M_appendRow_29 : decode zb_M_appendRow 29 = .ok (.iload_n 1, 1) := by decide +kernel
theorem zd_M_appendRow_30 : decode zb_M_appendRow 30 = .ok (.iaload, 1) := by decide +kernel
theorem zd_M_appendRow_31 : decode zb_M_appendRow 31 = .ok (.isub, 1) := by decide +kernel
theorem zd_M_appendRow_32 : decode zb_M_appendRow 32 = .ok (.if_icmp .gt 11, 3) := by decide +kernel
theorem zd_M_appendRow_35 : decode zb_M_appendRow 35 = .ok (.iload_n 3, 1) := by decide +kernel
theorem zd_M_appendRow_36 : decode zb_M_appendRow 36 = .ok (.aload_n 0, 1) := by decide +kernel
theorem zd_M_appendRow_37 : decode zb_M_appendRow 37 = .ok (.invokevirtual 60, 3) := by decide +kernel
theorem zd_M_appendRow_40 : decode zb_M_appendRow 40 = .ok (.if_icmp .le 5, 3) := by decide +kernel
theorem zd_M_appendRow_43 : decode zb_M_appendRow 43 = .ok (.iconst 0, 1) := by decide +kernel
theorem zd_M_appendRow_44 : decode zb_M_appendRow 44 = .ok (.ireturn, 1) := by decide +kernel
theorem zd_M_appendRow_45 : decode zb_M_appendRow 45 = .ok (.iconst 0, 1) := by decide +kernel
theorem zd_M_appendRow_46 : decode zb_M_appendRow 46 = .ok (.istore 4, 2) := by decide +kernel
theorem zd_M_appendRow_48 : decode zb_M_appendRow 48 = .ok (.iload 4, 2) := by decide +kernel
theorem zd_M_appendRow_50 : decode zb_M_appendRow 50 = .ok (.iload_n 3, 1) := by decide +kernel
theorem zd_M_appendRow_51 : decode zb_M_appendRow 51 = .ok (.if_icmp .ge 39, 3) := by decide +kernel
theorem zd_M_appendRow_54 : decode zb_M_appendRow 54 = .ok (.aload_n 0, 1) := by decide +kernel
theorem zd_M_appendRow_55 : decode zb_M_appendRow 55 = .ok (.getfield 27, 3) := by decide +kernel
theorem zd_M_appendRow_58 : decode zb_M_appendRow 58 = .ok (.bipush 64, 2) := by decide +kernel
theorem zd_M_appendRow_60 : decode zb_M_appendRow 60 = .ok (.iload_n 1, 1) := by decide +kernel
theorem zd_M_appendRow_61 : decode zb_M_appendRow 61 = .ok (.imul, 1) := by decide +kernel
theorem zd_M_appendRow_62 : decode zb_M_appendRow 62 = .ok (.aload_n 0, 1) := by decide +kernel
theorem zd_M_appendRow_63 : decode zb_M_appendRow 63 = .ok (.getfield 20, 3) := by decide +kernel
theorem zd_M_appendRow_66 : decode zb_M_appendRow 66 = .ok (.iload_n 1, 1) := by decide +kernel
theorem zd_M_appendRow_67 : decode zb_M_appendRow 67 = .ok (.iaload, 1) := by decide +kernel
theorem zd_M_appendRow_68 : decode zb_M_appendRow 68 = .ok (.iadd, 1) := by decide +kernel
theorem zd_M_appendRow_69 : decode zb_M_appendRow 69 = .ok (.iload_n 2, 1) := by decide +kernel
theorem zd_M_appendRow_70 : decode zb_M_appendRow 70 = .ok (.iload 4, 2) := by decide +kernel
theorem zd_M_appendRow_72 : decode zb_M_appendRow 72 = .ok (.iadd, 1) := by decide +kernel
theorem zd_M_appendRow_73 : decode zb_M_appendRow 73 = .ok (.iastore, 1) := by decide +kernel
theorem zd_M_appendRow_74 : decode zb_M_appendRow 74 = .ok (.aload_n 0, 1) := by decide +kernel
theorem zd_M_appendRow_75 : decode zb_M_appendRow 75 = .ok (.getfield 20, 3) := by decide +kernel
theorem zd_M_appendRow_78 : decode zb_M_appendRow 78 = .ok (.iload_n 1, 1) := by decide +kernel
theorem zd_M_appendRow_79 : decode zb_M_appendRow 79 = .ok (.dup2, 1) := by decide +kernel
theorem zd_M_appendRow_80 : decode zb_M_appendRow 80 = .ok (.iaload, 1) := by decide +kernel
theorem zd_M_appendRow_81 : decode zb_M_appendRow 81 = .ok (.iconst 1, 1) := by decide +kernel
theorem zd_M_appendRow_82 : decode zb_M_appendRow 82 = .ok (.iadd, 1) := by decide +kernel
theorem zd_M_appendRow_83 : decode zb_M_appendRow 83 = .ok (.iastore, 1) := by decide +kernel
theorem zd_M_appendRow_84 : decode zb_M_appendRow 84 = .ok (.iinc 4 1, 3) := by decide +kernel
theorem zd_M_appendRow_87 : decode zb_M_appendRow 87 = .ok (.goto (-39), 3) := by decide +kernel
theorem zd_M_appendRow_90 : decode zb_M_appendRow 90 = .ok (.iconst 1, 1) := by decide +kernel
theorem zd_M_appendRow_91 : decode zb_M_appendRow 91 = .ok (.ireturn, 1) := by decide +kernel
theorem zd_M_open_0 : decode zb_M_open 0 = .ok (.aload_n 0, 1) := by decide +kernel
theorem zd_M_open_1 : decode zb_M_open 1 = .ok (.iload_n 1, 1) := by decide +kernel
theorem zd_M_open_2 : decode zb_M_open 2 = .ok (.invokevirtual 49, 3) := by decide +kernel
theorem zd_M_open_5 : decode zb_M_open 5 = .ok (.ifCond .ne 5, 3) := by decide +kernel
theorem zd_M_open_8 : decode zb_M_open 8 = .ok (.iconst 0, 1) := by decide +kernel
theorem zd_M_open_9 : decode zb_M_open 9 = .ok (.ireturn, 1) := by decide +kernel
theorem zd_M_open_10 : decode zb_M_open 10 = .ok (.aload_n 0, 1) := by decide +kernel
theorem zd_M_open_11 : decode zb_M_open 11 = .ok (.getfield 23, 3) := by decide +kernel
theorem zd_M_open_14 : decode zb_M_open 14 = .ok (.iload_n 1, 1) := by decide +kernel
theorem zd_M_open_15 : decode zb_M_open 15 = .ok (.iload_n 2, 1) := by decide +kernel
theorem zd_M_open_16 : decode zb_M_open 16 = .ok (.bastore, 1) := by decide +kernel
theorem zd_M_open_17 : decode zb_M_open 17 = .ok (.iconst 1, 1) := by decide +kernel
theorem zd_M_open_18 : decode zb_M_open 18 = .ok (.ireturn, 1) := by decide +kernel
theorem zd_M_remove_0 : decode zb_M_remove 0 = .ok (.aload_n 0, 1) := by decide +kernel
theorem zd_M_remove_1 : decode zb_M_remove 1 = .ok (.iload_n 1, 1) := by decide +kernel
theorem zd_M_remove_2 : decode zb_M_remove 2 = .ok (.invokevirtual 49, 3) := by decide +kernel
theorem zd_M_remove_5 : decode zb_M_remove 5 = .ok (.ifCond .ne 5, 3) := by decide +kernel
theorem zd_M_remove_8 : decode zb_M_remove 8 = .ok (.iconst 0, 1) := by decide +kernel
theorem zd_M_remove_9 : decode zb_M_remove 9 = .ok (.ireturn, 1) := by decide +kernel
theorem zd_M_remove_10 : decode zb_M_remove 10 = .ok (.aload_n 0, 1) := by decide +kernel
theorem zd_M_remove_11 : decode zb_M_remove 11 = .ok (.getfield 13, 3) := by decide +kernel
theorem zd_M_remove_14 : decode zb_M_remove 14 = .ok (.iload_n 1, 1) := by decide +kernel
theorem zd_M_remove_15 : decode zb_M_remove 15 = .ok (.iconst 0, 1) := by decide +kernel
theorem zd_M_remove_16 : decode zb_M_remove 16 = .ok (.iastore, 1) := by decide +kernel
theorem zd_M_remove_17 : decode zb_M_remove 17 = .ok (.iconst 1, 1) := by decide +kernel
theorem zd_M_remove_18 : decode zb_M_remove 18 = .ok (.ireturn, 1) := by decide +kernel
theorem zd_M_rename_0 : decode zb_M_rename 0 = .ok (.aload_n 0, 1) := by decide +kernel
theorem zd_M_rename_1 : decode zb_M_rename 1 = .ok (.iload_n 1, 1) := by decide +kernel
theorem zd_M_rename_2 : decode zb_M_rename 2 = .ok (.invokevirtual 49, 3) := by decide +kernel
theorem zd_M_rename_5 : decode zb_M_rename 5 = .ok (.ifCond .eq 19, 3) := by decide +kernel
theorem zd_M_rename_8 : decode zb_M_rename 8 = .ok (.iload_n 2, 1) := by decide +kernel
theorem zd_M_rename_9 : decode zb_M_rename 9 = .ok (.invokestatic 45, 3) := by decide +kernel
theorem zd_M_rename_12 : decode zb_M_rename 12 = .ok (.ifCond .eq 12, 3) := by decide +kernel
theorem zd_M_rename_15 : decode zb_M_rename 15 = .ok (.aload_n 0, 1) := by decide +kernel
theorem zd_M_rename_16 : decode zb_M_rename 16 = .ok (.iload_n 2, 1) := by decide +kernel
theorem zd_M_rename_17 : decode zb_M_rename 17 = .ok (.invokevirtual 52, 3) := by decide +kernel
theorem zd_M_rename_20 : decode zb_M_rename 20 = .ok (.iconst (-1), 1) := by decide +kernel
theorem zd_M_rename_21 : decode zb_M_rename 21 = .ok (.if_icmp .eq 5, 3) := by decide +kernel
theorem zd_M_rename_24 : decode zb_M_rename 24 = .ok (.iconst 0, 1) := by decide +kernel
theorem zd_M_rename_25 : decode zb_M_rename 25 = .ok (.ireturn, 1) := by decide +kernel
theorem zd_M_rename_26 : decode zb_M_rename 26 = .ok (.aload_n 0, 1) := by decide +kernel
theorem zd_M_rename_27 : decode zb_M_rename 27 = .ok (.getfield 13, 3) := by decide +kernel
theorem zd_M_rename_30 : decode zb_M_rename 30 = .ok (.iload_n 1, 1) := by decide +kernel
theorem zd_M_rename_31 : decode zb_M_rename 31 = .ok (.iload_n 2, 1) := by decide +kernel
theorem zd_M_rename_32 : decode zb_M_rename 32 = .ok (.iconst 1, 1) := by decide +kernel
theorem zd_M_rename_33 : decode zb_M_rename 33 = .ok (.iadd, 1) := by decide +kernel
theorem zd_M_rename_34 : decode zb_M_rename 34 = .ok (.iastore, 1) := by decide +kernel
theorem zd_M_rename_35 : decode zb_M_rename 35 = .ok (.iconst 1, 1) := by decide +kernel
theorem zd_M_rename_36 : decode zb_M_rename 36 = .ok (.ireturn, 1) := by decide +kernel
theorem zd_M_sync_0 : decode zb_M_sync 0 = .ok (.aload_n 0, 1) := by decide +kernel
theorem zd_M_sync_1 : decode zb_M_sync 1 = .ok (.getfield 7, 3) := by decide +kernel
theorem zd_M_sync_4 : decode zb_M_sync 4 = .ok (.ifCond .ne 5, 3) := by decide +kernel
theorem zd_M_sync_7 : decode zb_M_sync 7 = .ok (.iconst 0, 1) := by decide +kernel
theorem zd_M_sync_8 : decode zb_M_sync 8 = .ok (.ireturn, 1) := by decide +kernel
theorem zd_M_sync_9 : decode zb_M_sync 9 = .ok (.iconst 0, 1) := by decide +kernel
theorem zd_M_sync_10 : decode zb_M_sync 10 = .ok (.istore_n 1, 1) := by decide +kernel
theorem zd_M_sync_11 : decode zb_M_sync 11 = .ok (.iload_n 1, 1) := by decide +kernel
theorem zd_M_sync_12 : decode zb_M_sync 12 = .ok (.bipush 24, 2) := by decide +kernel
theorem zd_M_sync_14 : decode zb_M_sync 14 = .ok (.if_icmp .ge 57, 3) := by decide +kernel
theorem zd_M_sync_17 : decode zb_M_sync 17 = .ok (.aload_n 0, 1) := by decide +kernel
theorem zd_M_sync_18 : decode zb_M_sync 18 = .ok (.getfield 30, 3) := by decide +kernel
theorem zd_M_sync_21 : decode zb_M_sync 21 = .ok (.iload_n 1, 1) := by decide +kernel
theorem zd_M_sync_22 : decode zb_M_sync 22 = .ok (.aload_n 0, 1) := by decide +kernel
theorem zd_M_sync_23 : decode zb_M_sync 23 = .ok (.getfield 13, 3) := by decide +kernel
theorem zd_M_sync_26 : decode zb_M_sync 26 = .ok (.iload_n 1, 1) := by decide +kernel
theorem zd_M_sync_27 : decode zb_M_sync 27 = .ok (.iaload, 1) := by decide +kernel
theorem zd_M_sync_28 : decode zb_M_sync 28 = .ok (.iastore, 1) := by decide +kernel
theorem zd_M_sync_29 : decode zb_M_sync 29 = .ok (.aload_n 0, 1) := by decide +kernel
theorem zd_M_sync_30 : decode zb_M_sync 30 = .ok (.getfield 33, 3) := by decide +kernel
theorem zd_M_sync_33 : decode zb_M_sync 33 = .ok (.iload_n 1, 1) := by decide +kernel
theorem zd_M_sync_34 : decode zb_M_sync 34 = .ok (.aload_n 0, 1) := by decide +kernel
theorem zd_M_sync_35 : decode zb_M_sync 35 = .ok (.getfield 17, 3) := by decide +kernel
theorem zd_M_sync_38 : decode zb_M_sync 38 = .ok (.iload_n 1, 1) := by decide +kernel
theorem zd_M_sync_39 : decode zb_M_sync 39 = .ok (.iaload, 1) := by decide +kernel
theorem zd_M_sync_40 : decode zb_M_sync 40 = .ok (.iastore, 1) := by decide +kernel
theorem zd_M_sync_41 : decode zb_M_sync 41 = .ok (.aload_n 0, 1) := by decide +kernel
theorem zd_M_sync_42 : decode zb_M_sync 42 = .ok (.getfield 36, 3) := by decide +kernel
theorem zd_M_sync_45 : decode zb_M_sync 45 = .ok (.iload_n 1, 1) := by decide +kernel
theorem zd_M_sync_46 : decode zb_M_sync 46 = .ok (.aload_n 0, 1) := by decide +kernel
theorem zd_M_sync_47 : decode zb_M_sync 47 = .ok (.getfield 20, 3) := by decide +kernel
theorem zd_M_sync_50 : decode zb_M_sync 50 = .ok (.iload_n 1, 1) := by decide +kernel
theorem zd_M_sync_51 : decode zb_M_sync 51 = .ok (.iaload, 1) := by decide +kernel
theorem zd_M_sync_52 : decode zb_M_sync 52 = .ok (.iastore, 1) := by decide +kernel
theorem zd_M_sync_53 : decode zb_M_sync 53 = .ok (.aload_n 0, 1) := by decide +kernel
theorem zd_M_sync_54 : decode zb_M_sync 54 = .ok (.getfield 39, 3) := by decide +kernel
theorem zd_M_sync_57 : decode zb_M_sync 57 = .ok (.iload_n 1, 1) := by decide +kernel
theorem zd_M_sync_58 : decode zb_M_sync 58 = .ok (.aload_n 0, 1) := by decide +kernel
theorem zd_M_sync_59 : decode zb_M_sync 59 = .ok (.getfield 23, 3) := by decide +kernel
theorem zd_M_sync_62 : decode zb_M_sync 62 = .ok (.iload_n 1, 1) := by decide +kernel
theorem zd_M_sync_63 : decode zb_M_sync 63 = .ok (.baload, 1) := by decide +kernel
theorem zd_M_sync_64 : decode zb_M_sync 64 = .ok (.bastore, 1) := by decide +kernel
theorem zd_M_sync_65 : decode zb_M_sync 65 = .ok (.iinc 1 1, 3) := by decide +kernel
theorem zd_M_sync_68 : decode zb_M_sync 68 = .ok (.goto (-57), 3) := by decide +kernel
theorem zd_M_sync_71 : decode zb_M_sync 71 = .ok (.iconst 0, 1) := by decide +kernel
theorem zd_M_sync_72 : decode zb_M_sync 72 = .ok (.istore_n 1, 1) := by decide +kernel
theorem zd_M_sync_73 : decode zb_M_sync 73 = .ok (.iload_n 1, 1) := by decide +kernel
theorem zd_M_sync_74 : decode zb_M_sync 74 = .ok (.sipush 1536, 3) := by decide +kernel
theorem zd_M_sync_77 : decode zb_M_sync 77 = .ok (.if_icmp .ge 21, 3) := by decide +kernel
theorem zd_M_sync_80 : decode zb_M_sync 80 = .ok (.aload_n 0, 1) := by decide +kernel
theorem zd_M_sync_81 : decode zb_M_sync 81 = .ok (.getfield 42, 3) := by decide +kernel
theorem zd_M_sync_84 : decode zb_M_sync 84 = .ok (.iload_n 1, 1) := by decide +kernel
theorem zd_M_sync_85 : decode zb_M_sync 85 = .ok (.aload_n 0, 1) := by decide +kernel
theorem zd_M_sync_86 : decode zb_M_sync 86 = .ok (.getfield 27, 3) := by decide +kernel
theorem zd_M_sync_89 : decode zb_M_sync 89 = .ok (.iload_n 1, 1) := by decide +kernel
theorem zd_M_sync_90 : decode zb_M_sync 90 = .ok (.iaload, 1) := by decide +kernel
theorem zd_M_sync_91 : decode zb_M_sync 91 = .ok (.iastore, 1) := by decide +kernel
theorem zd_M_sync_92 : decode zb_M_sync 92 = .ok (.iinc 1 1, 3) := by decide +kernel
theorem zd_M_sync_95 : decode zb_M_sync 95 = .ok (.goto (-22), 3) := by decide +kernel
theorem zd_M_sync_98 : decode zb_M_sync 98 = .ok (.iconst 1, 1) := by decide +kernel
theorem zd_M_sync_99 : decode zb_M_sync 99 = .ok (.ireturn, 1) := by decide +kernel
theorem zd_M_tear_0 : decode zb_M_tear 0 = .ok (.aload_n 0, 1) := by decide +kernel
theorem zd_M_tear_1 : decode zb_M_tear 1 = .ok (.invokevirtual 64, 3) := by decide +kernel
theorem zd_M_tear_4 : decode zb_M_tear 4 = .ok (.ireturn, 1) := by decide +kernel
theorem zd_M_cut_0 : decode zb_M_cut 0 = .ok (.aload_n 0, 1) := by decide +kernel
theorem zd_M_cut_1 : decode zb_M_cut 1 = .ok (.getfield 7, 3) := by decide +kernel
theorem zd_M_cut_4 : decode zb_M_cut 4 = .ok (.istore_n 1, 1) := by decide +kernel
theorem zd_M_cut_5 : decode zb_M_cut 5 = .ok (.aload_n 0, 1) := by decide +kernel
theorem zd_M_cut_6 : decode zb_M_cut 6 = .ok (.iconst 0, 1) := by decide +kernel
theorem zd_M_cut_7 : decode zb_M_cut 7 = .ok (.putfield 7, 3) := by decide +kernel
theorem zd_M_cut_10 : decode zb_M_cut 10 = .ok (.iload_n 1, 1) := by decide +kernel
theorem zd_M_cut_11 : decode zb_M_cut 11 = .ok (.ireturn, 1) := by decide +kernel
theorem zd_M_mount_0 : decode zb_M_mount 0 = .ok (.aload_n 0, 1) := by decide +kernel
theorem zd_M_mount_1 : decode zb_M_mount 1 = .ok (.getfield 7, 3) := by decide +kernel
theorem zd_M_mount_4 : decode zb_M_mount 4 = .ok (.ifCond .eq 5, 3) := by decide +kernel
theorem zd_M_mount_7 : decode zb_M_mount 7 = .ok (.iconst 0, 1) := by decide +kernel
theorem zd_M_mount_8 : decode zb_M_mount 8 = .ok (.ireturn, 1) := by decide +kernel
theorem zd_M_mount_9 : decode zb_M_mount 9 = .ok (.iconst 0, 1) := by decide +kernel
theorem zd_M_mount_10 : decode zb_M_mount 10 = .ok (.istore_n 1, 1) := by decide +kernel
theorem zd_M_mount_11 : decode zb_M_mount 11 = .ok (.iload_n 1, 1) := by decide +kernel
theorem zd_M_mount_12 : decode zb_M_mount 12 = .ok (.bipush 24, 2) := by decide +kernel
theorem zd_M_mount_14 : decode zb_M_mount 14 = .ok (.if_icmp .ge 57, 3) := by decide +kernel
theorem zd_M_mount_17 : decode zb_M_mount 17 = .ok (.aload_n 0, 1) := by decide +kernel
theorem zd_M_mount_18 : decode zb_M_mount 18 = .ok (.getfield 13, 3) := by decide +kernel
theorem zd_M_mount_21 : decode zb_M_mount 21 = .ok (.iload_n 1, 1) := by decide +kernel
theorem zd_M_mount_22 : decode zb_M_mount 22 = .ok (.aload_n 0, 1) := by decide +kernel
theorem zd_M_mount_23 : decode zb_M_mount 23 = .ok (.getfield 30, 3) := by decide +kernel
theorem zd_M_mount_26 : decode zb_M_mount 26 = .ok (.iload_n 1, 1) := by decide +kernel
theorem zd_M_mount_27 : decode zb_M_mount 27 = .ok (.iaload, 1) := by decide +kernel
theorem zd_M_mount_28 : decode zb_M_mount 28 = .ok (.iastore, 1) := by decide +kernel
theorem zd_M_mount_29 : decode zb_M_mount 29 = .ok (.aload_n 0, 1) := by decide +kernel
theorem zd_M_mount_30 : decode zb_M_mount 30 = .ok (.getfield 17, 3) := by decide +kernel
theorem zd_M_mount_33 : decode zb_M_mount 33 = .ok (.iload_n 1, 1) := by decide +kernel
theorem zd_M_mount_34 : decode zb_M_mount 34 = .ok (.aload_n 0, 1) := by decide +kernel
theorem zd_M_mount_35 : decode zb_M_mount 35 = .ok (.getfield 33, 3) := by decide +kernel
theorem zd_M_mount_38 : decode zb_M_mount 38 = .ok (.iload_n 1, 1) := by decide +kernel
theorem zd_M_mount_39 : decode zb_M_mount 39 = .ok (.iaload, 1) := by decide +kernel
theorem zd_M_mount_40 : decode zb_M_mount 40 = .ok (.iastore, 1) := by decide +kernel
theorem zd_M_mount_41 : decode zb_M_mount 41 = .ok (.aload_n 0, 1) := by decide +kernel
theorem zd_M_mount_42 : decode zb_M_mount 42 = .ok (.getfield 20, 3) := by decide +kernel
theorem zd_M_mount_45 : decode zb_M_mount 45 = .ok (.iload_n 1, 1) := by decide +kernel
theorem zd_M_mount_46 : decode zb_M_mount 46 = .ok (.aload_n 0, 1) := by decide +kernel
theorem zd_M_mount_47 : decode zb_M_mount 47 = .ok (.getfield 36, 3) := by decide +kernel
theorem zd_M_mount_50 : decode zb_M_mount 50 = .ok (.iload_n 1, 1) := by decide +kernel
theorem zd_M_mount_51 : decode zb_M_mount 51 = .ok (.iaload, 1) := by decide +kernel
theorem zd_M_mount_52 : decode zb_M_mount 52 = .ok (.iastore, 1) := by decide +kernel
theorem zd_M_mount_53 : decode zb_M_mount 53 = .ok (.aload_n 0, 1) := by decide +kernel
theorem zd_M_mount_54 : decode zb_M_mount 54 = .ok (.getfield 23, 3) := by decide +kernel
theorem zd_M_mount_57 : decode zb_M_mount 57 = .ok (.iload_n 1, 1) := by decide +kernel
theorem zd_M_mount_58 : decode zb_M_mount 58 = .ok (.aload_n 0, 1) := by decide +kernel
theorem zd_M_mount_59 : decode zb_M_mount 59 = .ok (.getfield 39, 3) := by decide +kernel
theorem zd_M_mount_62 : decode zb_M_mount 62 = .ok (.iload_n 1, 1) := by decide +kernel
theorem zd_M_mount_63 : decode zb_M_mount 63 = .ok (.baload, 1) := by decide +kernel
theorem zd_M_mount_64 : decode zb_M_mount 64 = .ok (.bastore, 1) := by decide +kernel
theorem zd_M_mount_65 : decode zb_M_mount 65 = .ok (.iinc 1 1, 3) := by decide +kernel
theorem zd_M_mount_68 : decode zb_M_mount 68 = .ok (.goto (-57), 3) := by decide +kernel
theorem zd_M_mount_71 : decode zb_M_mount 71 = .ok (.iconst 0, 1) := by decide +kernel
theorem zd_M_mount_72 : decode zb_M_mount 72 = .ok (.istore_n 1, 1) := by decide +kernel
theorem zd_M_mount_73 : decode zb_M_mount 73 = .ok (.iload_n 1, 1) := by decide +kernel
theorem zd_M_mount_74 : decode zb_M_mount 74 = .ok (.sipush 1536, 3) := by decide +kernel
theorem zd_M_mount_77 : decode zb_M_mount 77 = .ok (.if_icmp .ge 21, 3) := by decide +kernel
theorem zd_M_mount_80 : decode zb_M_mount 80 = .ok (.aload_n 0, 1) := by decide +kernel
theorem zd_M_mount_81 : decode zb_M_mount 81 = .ok (.getfield 27, 3) := by decide +kernel
theorem zd_M_mount_84 : decode zb_M_mount 84 = .ok (.iload_n 1, 1) := by decide +kernel
theorem zd_M_mount_85 : decode zb_M_mount 85 = .ok (.aload_n 0, 1) := by decide +kernel
theorem zd_M_mount_86 : decode zb_M_mount 86 = .ok (.getfield 42, 3) := by decide +kernel
theorem zd_M_mount_89 : decode zb_M_mount 89 = .ok (.iload_n 1, 1) := by decide +kernel
theorem zd_M_mount_90 : decode zb_M_mount 90 = .ok (.iaload, 1) := by decide +kernel
theorem zd_M_mount_91 : decode zb_M_mount 91 = .ok (.iastore, 1) := by decide +kernel
theorem zd_M_mount_92 : decode zb_M_mount 92 = .ok (.iinc 1 1, 3) := by decide +kernel
theorem zd_M_mount_95 : decode zb_M_mount 95 = .ok (.goto (-22), 3) := by decide +kernel
theorem zd_M_mount_98 : decode zb_M_mount 98 = .ok (.aload_n 0, 1) := by decide +kernel
theorem zd_M_mount_99 : decode zb_M_mount 99 = .ok (.iconst 1, 1) := by decide +kernel
theorem zd_M_mount_100 : decode zb_M_mount 100 = .ok (.putfield 7, 3) := by decide +kernel
theorem zd_M_mount_103 : decode zb_M_mount 103 = .ok (.iconst 1, 1) := by decide +kernel
theorem zd_M_mount_104 : decode zb_M_mount 104 = .ok (.ireturn, 1) := by decide +kernel
theorem zd_M_tidy_0 : decode zb_M_tidy 0 = .ok (.aload_n 0, 1) := by decide +kernel
theorem zd_M_tidy_1 : decode zb_M_tidy 1 = .ok (.getfield 7, 3) := by decide +kernel
theorem zd_M_tidy_4 : decode zb_M_tidy 4 = .ok (.ireturn, 1) := by decide +kernel
theorem zd_M_isUp_0 : decode zb_M_isUp 0 = .ok (.aload_n 0, 1) := by decide +kernel
theorem zd_M_isUp_1 : decode zb_M_isUp 1 = .ok (.getfield 7, 3) := by decide +kernel
theorem zd_M_isUp_4 : decode zb_M_isUp 4 = .ok (.ireturn, 1) := by decide +kernel
theorem zd_M_objects_0 : decode zb_M_objects 0 = .ok (.iconst 0, 1) := by decide +kernel
theorem zd_M_objects_1 : decode zb_M_objects 1 = .ok (.istore_n 1, 1) := by decide +kernel
theorem zd_M_objects_2 : decode zb_M_objects 2 = .ok (.iconst 0, 1) := by decide +kernel
theorem zd_M_objects_3 : decode zb_M_objects 3 = .ok (.istore_n 2, 1) := by decide +kernel
theorem zd_M_objects_4 : decode zb_M_objects 4 = .ok (.iload_n 2, 1) := by decide +kernel
theorem zd_M_objects_5 : decode zb_M_objects 5 = .ok (.bipush 24, 2) := by decide +kernel
theorem zd_M_objects_7 : decode zb_M_objects 7 = .ok (.if_icmp .ge 25, 3) := by decide +kernel
theorem zd_M_objects_10 : decode zb_M_objects 10 = .ok (.iload_n 1, 1) := by decide +kernel
theorem zd_M_objects_11 : decode zb_M_objects 11 = .ok (.aload_n 0, 1) := by decide +kernel
theorem zd_M_objects_12 : decode zb_M_objects 12 = .ok (.iload_n 2, 1) := by decide +kernel
theorem zd_M_objects_13 : decode zb_M_objects 13 = .ok (.invokevirtual 49, 3) := by decide +kernel
theorem zd_M_objects_16 : decode zb_M_objects 16 = .ok (.ifCond .eq 7, 3) := by decide +kernel
theorem zd_M_objects_19 : decode zb_M_objects 19 = .ok (.iconst 1, 1) := by decide +kernel
theorem zd_M_objects_20 : decode zb_M_objects 20 = .ok (.goto 4, 3) := by decide +kernel
theorem zd_M_objects_23 : decode zb_M_objects 23 = .ok (.iconst 0, 1) := by decide +kernel
theorem zd_M_objects_24 : decode zb_M_objects 24 = .ok (.iadd, 1) := by decide +kernel
theorem zd_M_objects_25 : decode zb_M_objects 25 = .ok (.istore_n 1, 1) := by decide +kernel
theorem zd_M_objects_26 : decode zb_M_objects 26 = .ok (.iinc 2 1, 3) := by decide +kernel
theorem zd_M_objects_29 : decode zb_M_objects 29 = .ok (.goto (-25), 3) := by decide +kernel
theorem zd_M_objects_32 : decode zb_M_objects 32 = .ok (.iload_n 1, 1) := by decide +kernel
theorem zd_M_objects_33 : decode zb_M_objects 33 = .ok (.ireturn, 1) := by decide +kernel
theorem zd_M_room_0 : decode zb_M_room 0 = .ok (.aload_n 0, 1) := by decide +kernel
theorem zd_M_room_1 : decode zb_M_room 1 = .ok (.getfield 7, 3) := by decide +kernel
theorem zd_M_room_4 : decode zb_M_room 4 = .ok (.ifCond .eq 10, 3) := by decide +kernel
theorem zd_M_room_7 : decode zb_M_room 7 = .ok (.aload_n 0, 1) := by decide +kernel
theorem zd_M_room_8 : decode zb_M_room 8 = .ok (.invokevirtual 60, 3) := by decide +kernel
theorem zd_M_room_11 : decode zb_M_room 11 = .ok (.goto 4, 3) := by decide +kernel
theorem zd_M_room_14 : decode zb_M_room 14 = .ok (.iconst 0, 1) := by decide +kernel
theorem zd_M_room_15 : decode zb_M_room 15 = .ok (.ireturn, 1) := by decide +kernel
theorem zd_M_object_0 : decode zb_M_object 0 = .ok (.aload_n 0, 1) := by decide +kernel
theorem zd_M_object_1 : decode zb_M_object 1 = .ok (.iload_n 1, 1) := by decide +kernel
theorem zd_M_object_2 : decode zb_M_object 2 = .ok (.invokevirtual 49, 3) := by decide +kernel
theorem zd_M_object_5 : decode zb_M_object 5 = .ok (.ifCond .ne 5, 3) := by decide +kernel
theorem zd_M_object_8 : decode zb_M_object 8 = .ok (.iconst (-1), 1) := by decide +kernel
theorem zd_M_object_9 : decode zb_M_object 9 = .ok (.ireturn, 1) := by decide +kernel
theorem zd_M_object_10 : decode zb_M_object 10 = .ok (.iload_n 2, 1) := by decide +kernel
theorem zd_M_object_11 : decode zb_M_object 11 = .ok (.tableswitch 67 0 3 #[29, 38, 45, 52], 29) := by decide +kernel
theorem zd_M_object_40 : decode zb_M_object 40 = .ok (.aload_n 0, 1) := by decide +kernel
theorem zd_M_object_41 : decode zb_M_object 41 = .ok (.getfield 13, 3) := by decide +kernel
theorem zd_M_object_44 : decode zb_M_object 44 = .ok (.iload_n 1, 1) := by decide +kernel
theorem zd_M_object_45 : decode zb_M_object 45 = .ok (.iaload, 1) := by decide +kernel
theorem zd_M_object_46 : decode zb_M_object 46 = .ok (.iconst 1, 1) := by decide +kernel
theorem zd_M_object_47 : decode zb_M_object 47 = .ok (.isub, 1) := by decide +kernel
theorem zd_M_object_48 : decode zb_M_object 48 = .ok (.ireturn, 1) := by decide +kernel
theorem zd_M_object_49 : decode zb_M_object 49 = .ok (.aload_n 0, 1) := by decide +kernel
theorem zd_M_object_50 : decode zb_M_object 50 = .ok (.getfield 17, 3) := by decide +kernel
theorem zd_M_object_53 : decode zb_M_object 53 = .ok (.iload_n 1, 1) := by decide +kernel
theorem zd_M_object_54 : decode zb_M_object 54 = .ok (.iaload, 1) := by decide +kernel
theorem zd_M_object_55 : decode zb_M_object 55 = .ok (.ireturn, 1) := by decide +kernel
theorem zd_M_object_56 : decode zb_M_object 56 = .ok (.aload_n 0, 1) := by decide +kernel
theorem zd_M_object_57 : decode zb_M_object 57 = .ok (.getfield 20, 3) := by decide +kernel
theorem zd_M_object_60 : decode zb_M_object 60 = .ok (.iload_n 1, 1) := by decide +kernel
theorem zd_M_object_61 : decode zb_M_object 61 = .ok (.iaload, 1) := by decide +kernel
theorem zd_M_object_62 : decode zb_M_object 62 = .ok (.ireturn, 1) := by decide +kernel
theorem zd_M_object_63 : decode zb_M_object 63 = .ok (.aload_n 0, 1) := by decide +kernel
theorem zd_M_object_64 : decode zb_M_object 64 = .ok (.getfield 23, 3) := by decide +kernel
theorem zd_M_object_67 : decode zb_M_object 67 = .ok (.iload_n 1, 1) := by decide +kernel
theorem zd_M_object_68 : decode zb_M_object 68 = .ok (.baload, 1) := by decide +kernel
theorem zd_M_object_69 : decode zb_M_object 69 = .ok (.ifCond .eq 7, 3) := by decide +kernel
theorem zd_M_object_72 : decode zb_M_object 72 = .ok (.iconst 1, 1) := by decide +kernel
theorem zd_M_object_73 : decode zb_M_object 73 = .ok (.goto 4, 3) := by decide +kernel
theorem zd_M_object_76 : decode zb_M_object 76 = .ok (.iconst 0, 1) := by decide +kernel
theorem zd_M_object_77 : decode zb_M_object 77 = .ok (.ireturn, 1) := by decide +kernel
theorem zd_M_object_78 : decode zb_M_object 78 = .ok (.iconst (-1), 1) := by decide +kernel
theorem zd_M_object_79 : decode zb_M_object 79 = .ok (.ireturn, 1) := by decide +kernel
theorem zd_M_word_0 : decode zb_M_word 0 = .ok (.aload_n 0, 1) := by decide +kernel
theorem zd_M_word_1 : decode zb_M_word 1 = .ok (.iload_n 1, 1) := by decide +kernel
theorem zd_M_word_2 : decode zb_M_word 2 = .ok (.invokevirtual 49, 3) := by decide +kernel
theorem zd_M_word_5 : decode zb_M_word 5 = .ok (.ifCond .eq 31, 3) := by decide +kernel
theorem zd_M_word_8 : decode zb_M_word 8 = .ok (.iload_n 2, 1) := by decide +kernel
theorem zd_M_word_9 : decode zb_M_word 9 = .ok (.ifCond .lt 27, 3) := by decide +kernel
theorem zd_M_word_12 : decode zb_M_word 12 = .ok (.iload_n 2, 1) := by decide +kernel
theorem zd_M_word_13 : decode zb_M_word 13 = .ok (.aload_n 0, 1) := by decide +kernel
theorem zd_M_word_14 : decode zb_M_word 14 = .ok (.getfield 20, 3) := by decide +kernel
theorem zd_M_word_17 : decode zb_M_word 17 = .ok (.iload_n 1, 1) := by decide +kernel
theorem zd_M_word_18 : decode zb_M_word 18 = .ok (.iaload, 1) := by decide +kernel
theorem zd_M_word_19 : decode zb_M_word 19 = .ok (.if_icmp .ge 17, 3) := by decide +kernel
theorem zd_M_word_22 : decode zb_M_word 22 = .ok (.aload_n 0, 1) := by decide +kernel
theorem zd_M_word_23 : decode zb_M_word 23 = .ok (.getfield 27, 3) := by decide +kernel
theorem zd_M_word_26 : decode zb_M_word 26 = .ok (.bipush 64, 2) := by decide +kernel
theorem zd_M_word_28 : decode zb_M_word 28 = .ok (.iload_n 1, 1) := by decide +kernel
theorem zd_M_word_29 : decode zb_M_word 29 = .ok (.imul, 1) := by decide +kernel
theorem zd_M_word_30 : decode zb_M_word 30 = .ok (.iload_n 2, 1) := by decide +kernel
theorem zd_M_word_31 : decode zb_M_word 31 = .ok (.iadd, 1) := by decide +kernel
theorem zd_M_word_32 : decode zb_M_word 32 = .ok (.iaload, 1) := by decide +kernel
theorem zd_M_word_33 : decode zb_M_word 33 = .ok (.goto 4, 3) := by decide +kernel
theorem zd_M_word_36 : decode zb_M_word 36 = .ok (.iconst 0, 1) := by decide +kernel
theorem zd_M_word_37 : decode zb_M_word 37 = .ok (.ireturn, 1) := by decide +kernel
theorem zd_M_find_0 : decode zb_M_find 0 = .ok (.aload_n 0, 1) := by decide +kernel
theorem zd_M_find_1 : decode zb_M_find 1 = .ok (.iload_n 1, 1) := by decide +kernel
theorem zd_M_find_2 : decode zb_M_find 2 = .ok (.invokevirtual 52, 3) := by decide +kernel
theorem zd_M_find_5 : decode zb_M_find 5 = .ok (.ireturn, 1) := by decide +kernel
theorem zd_M_list_0 : decode zb_M_list 0 = .ok (.iconst 0, 1) := by decide +kernel
theorem zd_M_list_1 : decode zb_M_list 1 = .ok (.istore_n 2, 1) := by decide +kernel
theorem zd_M_list_2 : decode zb_M_list 2 = .ok (.iload_n 2, 1) := by decide +kernel
theorem zd_M_list_3 : decode zb_M_list 3 = .ok (.bipush 24, 2) := by decide +kernel
theorem zd_M_list_5 : decode zb_M_list 5 = .ok (.if_icmp .ge 75, 3) := by decide +kernel
theorem zd_M_list_8 : decode zb_M_list 8 = .ok (.iconst 0, 1) := by decide +kernel
theorem zd_M_list_9 : decode zb_M_list 9 = .ok (.istore_n 3, 1) := by decide +kernel
theorem zd_M_list_10 : decode zb_M_list 10 = .ok (.iconst 0, 1) := by decide +kernel
theorem zd_M_list_11 : decode zb_M_list 11 = .ok (.istore 4, 2) := by decide +kernel
theorem zd_M_list_13 : decode zb_M_list 13 = .ok (.iload 4, 2) := by decide +kernel
theorem zd_M_list_15 : decode zb_M_list 15 = .ok (.bipush 24, 2) := by decide +kernel
theorem zd_M_list_17 : decode zb_M_list 17 = .ok (.if_icmp .ge 42, 3) := by decide +kernel
theorem zd_M_list_20 : decode zb_M_list 20 = .ok (.iload_n 3, 1) := by decide +kernel
theorem zd_M_list_21 : decode zb_M_list 21 = .ok (.aload_n 0, 1) := by decide +kernel
theorem zd_M_list_22 : decode zb_M_list 22 = .ok (.iload 4, 2) := by decide +kernel
theorem zd_M_list_24 : decode zb_M_list 24 = .ok (.invokevirtual 49, 3) := by decide +kernel
theorem zd_M_list_27 : decode zb_M_list 27 = .ok (.ifCond .eq 23, 3) := by decide +kernel
theorem zd_M_list_30 : decode zb_M_list 30 = .ok (.aload_n 0, 1) := by decide +kernel
theorem zd_M_list_31 : decode zb_M_list 31 = .ok (.getfield 13, 3) := by decide +kernel
theorem zd_M_list_34 : decode zb_M_list 34 = .ok (.iload 4, 2) := by decide +kernel
theorem zd_M_list_36 : decode zb_M_list 36 = .ok (.iaload, 1) := by decide +kernel
theorem zd_M_list_37 : decode zb_M_list 37 = .ok (.aload_n 0, 1) := by decide +kernel
theorem zd_M_list_38 : decode zb_M_list 38 = .ok (.getfield 13, 3) := by decide +kernel
theorem zd_M_list_41 : decode zb_M_list 41 = .ok (.iload_n 2, 1) := by decide +kernel
theorem zd_M_list_42 : decode zb_M_list 42 = .ok (.iaload, 1) := by decide +kernel
theorem zd_M_list_43 : decode zb_M_list 43 = .ok (.if_icmp .ge 7, 3) := by decide +kernel
theorem zd_M_list_46 : decode zb_M_list 46 = .ok (.iconst 1, 1) := by decide +kernel
theorem zd_M_list_47 : decode zb_M_list 47 = .ok (.goto 4, 3) := by decide +kernel
theorem zd_M_list_50 : decode zb_M_list 50 = .ok (.iconst 0, 1) := by decide +kernel
theorem zd_M_list_51 : decode zb_M_list 51 = .ok (.iadd, 1) := by decide +kernel
theorem zd_M_list_52 : decode zb_M_list 52 = .ok (.istore_n 3, 1) := by decide +kernel
theorem zd_M_list_53 : decode zb_M_list 53 = .ok (.iinc 4 1, 3) := by decide +kernel
theorem zd_M_list_56 : decode zb_M_list 56 = .ok (.goto (-43), 3) := by decide +kernel
theorem zd_M_list_59 : decode zb_M_list 59 = .ok (.aload_n 0, 1) := by decide +kernel
theorem zd_M_list_60 : decode zb_M_list 60 = .ok (.iload_n 2, 1) := by decide +kernel
theorem zd_M_list_61 : decode zb_M_list 61 = .ok (.invokevirtual 49, 3) := by decide +kernel
theorem zd_M_list_64 : decode zb_M_list 64 = .ok (.ifCond .eq 10, 3) := by decide +kernel
theorem zd_M_list_67 : decode zb_M_list 67 = .ok (.iload_n 3, 1) := by decide +kernel
theorem zd_M_list_68 : decode zb_M_list 68 = .ok (.iload_n 1, 1) := by decide +kernel
theorem zd_M_list_69 : decode zb_M_list 69 = .ok (.if_icmp .ne 5, 3) := by decide +kernel
theorem zd_M_list_72 : decode zb_M_list 72 = .ok (.iload_n 2, 1) := by decide +kernel
theorem zd_M_list_73 : decode zb_M_list 73 = .ok (.ireturn, 1) := by decide +kernel
theorem zd_M_list_74 : decode zb_M_list 74 = .ok (.iinc 2 1, 3) := by decide +kernel
theorem zd_M_list_77 : decode zb_M_list 77 = .ok (.goto (-75), 3) := by decide +kernel
theorem zd_M_list_80 : decode zb_M_list 80 = .ok (.iconst (-1), 1) := by decide +kernel
theorem zd_M_list_81 : decode zb_M_list 81 = .ok (.ireturn, 1) := by decide +kernel
