theorem zd_X_init_0 : decode zb_X_init 0 = .ok (.aload_n 0, 1) := by decide +kernel
theorem zd_X_init_1 : decode zb_X_init 1 = .ok (.invokespecial 1, 3) := by decide +kernel
theorem zd_X_init_4 : decode zb_X_init 4 = .ok (.aload_n 0, 1) := by decide +kernel
theorem zd_X_init_5 : decode zb_X_init 5 = .ok (.new 7, 3) := by decide +kernel
theorem zd_X_init_8 : decode zb_X_init 8 = .ok (.dup, 1) := by decide +kernel
theorem zd_X_init_9 : decode zb_X_init 9 = .ok (.invokespecial 9, 3) := by decide +kernel
theorem zd_X_init_12 : decode zb_X_init 12 = .ok (.putfield 10, 3) := by decide +kernel
theorem zd_X_init_15 : decode zb_X_init 15 = .ok (.aload_n 0, 1) := by decide +kernel
theorem zd_X_init_16 : decode zb_X_init 16 = .ok (.new 7, 3) := by decide +kernel
theorem zd_X_init_19 : decode zb_X_init 19 = .ok (.dup, 1) := by decide +kernel
theorem zd_X_init_20 : decode zb_X_init 20 = .ok (.invokespecial 9, 3) := by decide +kernel
theorem zd_X_init_23 : decode zb_X_init 23 = .ok (.putfield 16, 3) := by decide +kernel
theorem zd_X_init_26 : decode zb_X_init 26 = .ok (.aload_n 0, 1) := by decide +kernel
theorem zd_X_init_27 : decode zb_X_init 27 = .ok (.iconst 1, 1) := by decide +kernel
theorem zd_X_init_28 : decode zb_X_init 28 = .ok (.putfield 19, 3) := by decide +kernel
theorem zd_X_init_31 : decode zb_X_init 31 = .ok (.return_, 1) := by decide +kernel
theorem zd_X_create_0 : decode zb_X_create 0 = .ok (.aload_n 0, 1) := by decide +kernel
theorem zd_X_create_1 : decode zb_X_create 1 = .ok (.getfield 19, 3) := by decide +kernel
theorem zd_X_create_4 : decode zb_X_create 4 = .ok (.ifCond .eq 18, 3) := by decide +kernel
theorem zd_X_create_7 : decode zb_X_create 7 = .ok (.aload_n 0, 1) := by decide +kernel
theorem zd_X_create_8 : decode zb_X_create 8 = .ok (.iload_n 1, 1) := by decide +kernel
theorem zd_X_create_9 : decode zb_X_create 9 = .ok (.invokevirtual 23, 3) := by decide +kernel
theorem zd_X_create_12 : decode zb_X_create 12 = .ok (.ifCond .eq 10, 3) := by decide +kernel
theorem zd_X_create_15 : decode zb_X_create 15 = .ok (.iload_n 2, 1) := by decide +kernel
theorem zd_X_create_16 : decode zb_X_create 16 = .ok (.invokestatic 27, 3) := by decide +kernel
theorem zd_X_create_19 : decode zb_X_create 19 = .ok (.ifCond .ne 5, 3) := by decide +kernel
theorem zd_X_create_22 : decode zb_X_create 22 = .ok (.iconst (-1), 1) := by decide +kernel
theorem zd_X_create_23 : decode zb_X_create 23 = .ok (.ireturn, 1) := by decide +kernel
theorem zd_X_create_24 : decode zb_X_create 24 = .ok (.aload_n 0, 1) := by decide +kernel
theorem zd_X_create_25 : decode zb_X_create 25 = .ok (.getfield 10, 3) := by decide +kernel
theorem zd_X_create_28 : decode zb_X_create 28 = .ok (.invokevirtual 30, 3) := by decide +kernel
theorem zd_X_create_31 : decode zb_X_create 31 = .ok (.istore_n 3, 1) := by decide +kernel
theorem zd_X_create_32 : decode zb_X_create 32 = .ok (.iload_n 3, 1) := by decide +kernel
theorem zd_X_create_33 : decode zb_X_create 33 = .ok (.iconst (-1), 1) := by decide +kernel
theorem zd_X_create_34 : decode zb_X_create 34 = .ok (.if_icmp .eq 13, 3) := by decide +kernel
theorem zd_X_create_37 : decode zb_X_create 37 = .ok (.aload_n 0, 1) := by decide +kernel
theorem zd_X_create_38 : decode zb_X_create 38 = .ok (.getfield 10, 3) := by decide +kernel
theorem zd_X_create_41 : decode zb_X_create 41 = .ok (.iload_n 3, 1) := by decide +kernel
theorem zd_X_create_42 : decode zb_X_create 42 = .ok (.iload_n 1, 1) := by decide +kernel
theorem zd_X_create_43 : decode zb_X_create 43 = .ok (.iload_n 2, 1) := by decide +kernel
theorem zd_X_create_44 : decode zb_X_create 44 = .ok (.invokevirtual 34, 3) := by decide +kernel
theorem zd_X_create_47 : decode zb_X_create 47 = .ok (.iload_n 3, 1) := by decide +kernel
theorem zd_X_create_48 : decode zb_X_create 48 = .ok (.ireturn, 1) := by decide +kernel
theorem zd_X_append_0 : decode zb_X_append 0 = .ok (.aload_n 0, 1) := by decide +kernel
theorem zd_X_append_1 : decode zb_X_append 1 = .ok (.iload_n 1, 1) := by decide +kernel
theorem zd_X_append_2 : decode zb_X_append 2 = .ok (.iload_n 2, 1) := by decide +kernel
theorem zd_X_append_3 : decode zb_X_append 3 = .ok (.iconst 1, 1) := by decide +kernel
theorem zd_X_append_4 : decode zb_X_append 4 = .ok (.invokevirtual 38, 3) := by decide +kernel
theorem zd_X_append_7 : decode zb_X_append 7 = .ok (.ireturn, 1) := by decide +kernel
theorem zd_X_appendRow_0 : decode zb_X_appendRow 0 = .ok (.aload_n 0, 1) := by decide +kernel
theorem zd_X_appendRow_1 : decode zb_X_appendRow 1 = .ok (.iload_n 1, 1) := by decide +kernel
theorem zd_X_appendRow_2 : decode zb_X_appendRow 2 = .ok (.invokevirtual 42, 3) := by decide +kernel
theorem zd_X_appendRow_5 : decode zb_X_appendRow 5 = .ok (.ifCond .eq 29, 3) := by decide +kernel
theorem zd_X_appendRow_8 : decode zb_X_appendRow 8 = .ok (.aload_n 0, 1) := by decide +kernel
theorem zd_X_appendRow_9 : decode zb_X_appendRow 9 = .ok (.getfield 10, 3) := by decide +kernel
theorem zd_X_appendRow_12 : decode zb_X_appendRow 12 = .ok (.getfield 45, 3) := by decide +kernel
theorem zd_X_appendRow_15 : decode zb_X_appendRow 15 = .ok (.iload_n 1, 1) := by decide +kernel
theorem zd_X_appendRow_16 : decode zb_X_appendRow 16 = .ok (.baload, 1) := by decide +kernel
theorem zd_X_appendRow_17 : decode zb_X_appendRow 17 = .ok (.ifCond .eq 17, 3) := by decide +kernel
theorem zd_X_appendRow_20 : decode zb_X_appendRow 20 = .ok (.iload_n 3, 1) := by decide +kernel
theorem zd_X_appendRow_21 : decode zb_X_appendRow 21 = .ok (.iconst 1, 1) := by decide +kernel
theorem zd_X_appendRow_22 : decode zb_X_appendRow 22 = .ok (.if_icmp .lt 12, 3) := by decide +kernel
theorem zd_X_appendRow_25 : decode zb_X_appendRow 25 = .ok (.iload_n 3, 1) := by decide +kernel
theorem zd_X_appendRow_26 : decode zb_X_appendRow 26 = .ok (.aload_n 0, 1) := by decide +kernel
theorem zd_X_appendRow_27 : decode zb_X_appendRow 27 = .ok (.iload_n 1, 1) := by decide +kernel
theorem zd_X_appendRow_28 : decode zb_X_appendRow 28 = .ok (.invokevirtual 49, 3) := by decide +kernel
theorem zd_X_appendRow_31 : decode zb_X_appendRow 31 = .ok (.if_icmp .le 5, 3) := by decide +kernel
theorem zd_X_appendRow_34 : decode zb_X_appendRow 34 = .ok (.iconst 0, 1) := by decide +kernel
theorem zd_X_appendRow_35 : decode zb_X_appendRow 35 = .ok (.ireturn, 1) := by decide +kernel
theorem zd_X_appendRow_36 : decode zb_X_appendRow 36 = .ok (.aload_n 0, 1) := by decide +kernel
theorem zd_X_appendRow_37 : decode zb_X_appendRow 37 = .ok (.getfield 10, 3) := by decide +kernel
theorem zd_X_appendRow_40 : decode zb_X_appendRow 40 = .ok (.iload_n 1, 1) := by decide +kernel
theorem zd_X_appendRow_41 : decode zb_X_appendRow 41 = .ok (.iload_n 2, 1) := by decide +kernel
theorem zd_X_appendRow_42 : decode zb_X_appendRow 42 = .ok (.iload_n 3, 1) := by decide +kernel
theorem zd_X_appendRow_43 : decode zb_X_appendRow 43 = .ok (.invokevirtual 53, 3) := by decide +kernel
theorem zd_X_appendRow_46 : decode zb_X_appendRow 46 = .ok (.iconst 1, 1) := by decide +kernel
theorem zd_X_appendRow_47 : decode zb_X_appendRow 47 = .ok (.ireturn, 1) := by decide +kernel
theorem zd_X_open_0 : decode zb_X_open 0 = .ok (.aload_n 0, 1) := by decide +kernel
theorem zd_X_open_1 : decode zb_X_open 1 = .ok (.iload_n 1, 1) := by decide +kernel
theorem zd_X_open_2 : decode zb_X_open 2 = .ok (.invokevirtual 42, 3) := by decide +kernel
theorem zd_X_open_5 : decode zb_X_open 5 = .ok (.ifCond .ne 5, 3) := by decide +kernel
theorem zd_X_open_8 : decode zb_X_open 8 = .ok (.iconst 0, 1) := by decide +kernel
theorem zd_X_open_9 : decode zb_X_open 9 = .ok (.ireturn, 1) := by decide +kernel
theorem zd_X_open_10 : decode zb_X_open 10 = .ok (.aload_n 0, 1) := by decide +kernel
theorem zd_X_open_11 : decode zb_X_open 11 = .ok (.getfield 10, 3) := by decide +kernel
theorem zd_X_open_14 : decode zb_X_open 14 = .ok (.getfield 45, 3) := by decide +kernel
theorem zd_X_open_17 : decode zb_X_open 17 = .ok (.iload_n 1, 1) := by decide +kernel
theorem zd_X_open_18 : decode zb_X_open 18 = .ok (.iload_n 2, 1) := by decide +kernel
theorem zd_X_open_19 : decode zb_X_open 19 = .ok (.bastore, 1) := by decide +kernel
theorem zd_X_open_20 : decode zb_X_open 20 = .ok (.iconst 1, 1) := by decide +kernel
theorem zd_X_open_21 : decode zb_X_open 21 = .ok (.ireturn, 1) := by decide +kernel
theorem zd_X_remove_0 : decode zb_X_remove 0 = .ok (.aload_n 0, 1) := by decide +kernel
theorem zd_X_remove_1 : decode zb_X_remove 1 = .ok (.iload_n 1, 1) := by decide +kernel
theorem zd_X_remove_2 : decode zb_X_remove 2 = .ok (.invokevirtual 42, 3) := by decide +kernel
theorem zd_X_remove_5 : decode zb_X_remove 5 = .ok (.ifCond .ne 5, 3) := by decide +kernel
theorem zd_X_remove_8 : decode zb_X_remove 8 = .ok (.iconst 0, 1) := by decide +kernel
theorem zd_X_remove_9 : decode zb_X_remove 9 = .ok (.ireturn, 1) := by decide +kernel
theorem zd_X_remove_10 : decode zb_X_remove 10 = .ok (.aload_n 0, 1) := by decide +kernel
theorem zd_X_remove_11 : decode zb_X_remove 11 = .ok (.getfield 10, 3) := by decide +kernel
theorem zd_X_remove_14 : decode zb_X_remove 14 = .ok (.iload_n 1, 1) := by decide +kernel
theorem zd_X_remove_15 : decode zb_X_remove 15 = .ok (.invokevirtual 56, 3) := by decide +kernel
theorem zd_X_remove_18 : decode zb_X_remove 18 = .ok (.iconst 1, 1) := by decide +kernel
theorem zd_X_remove_19 : decode zb_X_remove 19 = .ok (.ireturn, 1) := by decide +kernel
theorem zd_X_rename_0 : decode zb_X_rename 0 = .ok (.aload_n 0, 1) := by decide +kernel
theorem zd_X_rename_1 : decode zb_X_rename 1 = .ok (.iload_n 1, 1) := by decide +kernel
theorem zd_X_rename_2 : decode zb_X_rename 2 = .ok (.invokevirtual 42, 3) := by decide +kernel
theorem zd_X_rename_5 : decode zb_X_rename 5 = .ok (.ifCond .eq 11, 3) := by decide +kernel
theorem zd_X_rename_8 : decode zb_X_rename 8 = .ok (.aload_n 0, 1) := by decide +kernel
theorem zd_X_rename_9 : decode zb_X_rename 9 = .ok (.iload_n 2, 1) := by decide +kernel
theorem zd_X_rename_10 : decode zb_X_rename 10 = .ok (.invokevirtual 23, 3) := by decide +kernel
theorem zd_X_rename_13 : decode zb_X_rename 13 = .ok (.ifCond .ne 5, 3) := by decide +kernel
theorem zd_X_rename_16 : decode zb_X_rename 16 = .ok (.iconst 0, 1) := by decide +kernel
theorem zd_X_rename_17 : decode zb_X_rename 17 = .ok (.ireturn, 1) := by decide +kernel
theorem zd_X_rename_18 : decode zb_X_rename 18 = .ok (.aload_n 0, 1) := by decide +kernel
theorem zd_X_rename_19 : decode zb_X_rename 19 = .ok (.getfield 10, 3) := by decide +kernel
theorem zd_X_rename_22 : decode zb_X_rename 22 = .ok (.getfield 60, 3) := by decide +kernel
theorem zd_X_rename_25 : decode zb_X_rename 25 = .ok (.iload_n 1, 1) := by decide +kernel
theorem zd_X_rename_26 : decode zb_X_rename 26 = .ok (.iload_n 2, 1) := by decide +kernel
theorem zd_X_rename_27 : decode zb_X_rename 27 = .ok (.iastore, 1) := by decide +kernel
theorem zd_X_rename_28 : decode zb_X_rename 28 = .ok (.iconst 1, 1) := by decide +kernel
theorem zd_X_rename_29 : decode zb_X_rename 29 = .ok (.ireturn, 1) := by decide +kernel
theorem zd_X_sync_0 : decode zb_X_sync 0 = .ok (.aload_n 0, 1) := by decide +kernel
theorem zd_X_sync_1 : decode zb_X_sync 1 = .ok (.getfield 19, 3) := by decide +kernel
theorem zd_X_sync_4 : decode zb_X_sync 4 = .ok (.ifCond .ne 5, 3) := by decide +kernel
theorem zd_X_sync_7 : decode zb_X_sync 7 = .ok (.iconst 0, 1) := by decide +kernel
theorem zd_X_sync_8 : decode zb_X_sync 8 = .ok (.ireturn, 1) := by decide +kernel
theorem zd_X_sync_9 : decode zb_X_sync 9 = .ok (.aload_n 0, 1) := by decide +kernel
theorem zd_X_sync_10 : decode zb_X_sync 10 = .ok (.getfield 16, 3) := by decide +kernel
theorem zd_X_sync_13 : decode zb_X_sync 13 = .ok (.aload_n 0, 1) := by decide +kernel
theorem zd_X_sync_14 : decode zb_X_sync 14 = .ok (.getfield 10, 3) := by decide +kernel
theorem zd_X_sync_17 : decode zb_X_sync 17 = .ok (.invokevirtual 64, 3) := by decide +kernel
theorem zd_X_sync_20 : decode zb_X_sync 20 = .ok (.iconst 1, 1) := by decide +kernel
theorem zd_X_sync_21 : decode zb_X_sync 21 = .ok (.ireturn, 1) := by decide +kernel
theorem zd_X_tear_0 : decode zb_X_tear 0 = .ok (.aload_n 0, 1) := by decide +kernel
theorem zd_X_tear_1 : decode zb_X_tear 1 = .ok (.invokevirtual 68, 3) := by decide +kernel
theorem zd_X_tear_4 : decode zb_X_tear 4 = .ok (.ireturn, 1) := by decide +kernel
theorem zd_X_cut_0 : decode zb_X_cut 0 = .ok (.aload_n 0, 1) := by decide +kernel
theorem zd_X_cut_1 : decode zb_X_cut 1 = .ok (.getfield 19, 3) := by decide +kernel
theorem zd_X_cut_4 : decode zb_X_cut 4 = .ok (.ifCond .ne 5, 3) := by decide +kernel
theorem zd_X_cut_7 : decode zb_X_cut 7 = .ok (.iconst 0, 1) := by decide +kernel
theorem zd_X_cut_8 : decode zb_X_cut 8 = .ok (.ireturn, 1) := by decide +kernel
theorem zd_X_cut_9 : decode zb_X_cut 9 = .ok (.aload_n 0, 1) := by decide +kernel
theorem zd_X_cut_10 : decode zb_X_cut 10 = .ok (.iconst 0, 1) := by decide +kernel
theorem zd_X_cut_11 : decode zb_X_cut 11 = .ok (.putfield 19, 3) := by decide +kernel
theorem zd_X_cut_14 : decode zb_X_cut 14 = .ok (.iconst 1, 1) := by decide +kernel
theorem zd_X_cut_15 : decode zb_X_cut 15 = .ok (.ireturn, 1) := by decide +kernel
theorem zd_X_mount_0 : decode zb_X_mount 0 = .ok (.aload_n 0, 1) := by decide +kernel
theorem zd_X_mount_1 : decode zb_X_mount 1 = .ok (.getfield 19, 3) := by decide +kernel
theorem zd_X_mount_4 : decode zb_X_mount 4 = .ok (.ifCond .eq 5, 3) := by decide +kernel
theorem zd_X_mount_7 : decode zb_X_mount 7 = .ok (.iconst 0, 1) := by decide +kernel
theorem zd_X_mount_8 : decode zb_X_mount 8 = .ok (.ireturn, 1) := by decide +kernel
theorem zd_X_mount_9 : decode zb_X_mount 9 = .ok (.aload_n 0, 1) := by decide +kernel
theorem zd_X_mount_10 : decode zb_X_mount 10 = .ok (.getfield 10, 3) := by decide +kernel
theorem zd_X_mount_13 : decode zb_X_mount 13 = .ok (.aload_n 0, 1) := by decide +kernel
theorem zd_X_mount_14 : decode zb_X_mount 14 = .ok (.getfield 16, 3) := by decide +kernel
theorem zd_X_mount_17 : decode zb_X_mount 17 = .ok (.invokevirtual 64, 3) := by decide +kernel
theorem zd_X_mount_20 : decode zb_X_mount 20 = .ok (.aload_n 0, 1) := by decide +kernel
theorem zd_X_mount_21 : decode zb_X_mount 21 = .ok (.iconst 1, 1) := by decide +kernel
theorem zd_X_mount_22 : decode zb_X_mount 22 = .ok (.putfield 19, 3) := by decide +kernel
theorem zd_X_mount_25 : decode zb_X_mount 25 = .ok (.iconst 1, 1) := by decide +kernel
theorem zd_X_mount_26 : decode zb_X_mount 26 = .ok (.ireturn, 1) := by decide +kernel
theorem zd_X_tidy_0 : decode zb_X_tidy 0 = .ok (.aload_n 0, 1) := by decide +kernel
theorem zd_X_tidy_1 : decode zb_X_tidy 1 = .ok (.getfield 19, 3) := by decide +kernel
theorem zd_X_tidy_4 : decode zb_X_tidy 4 = .ok (.ireturn, 1) := by decide +kernel
theorem zd_X_isUp_0 : decode zb_X_isUp 0 = .ok (.aload_n 0, 1) := by decide +kernel
theorem zd_X_isUp_1 : decode zb_X_isUp 1 = .ok (.getfield 19, 3) := by decide +kernel
theorem zd_X_isUp_4 : decode zb_X_isUp 4 = .ok (.ireturn, 1) := by decide +kernel
theorem zd_X_objects_0 : decode zb_X_objects 0 = .ok (.aload_n 0, 1) := by decide +kernel
theorem zd_X_objects_1 : decode zb_X_objects 1 = .ok (.getfield 19, 3) := by decide +kernel
theorem zd_X_objects_4 : decode zb_X_objects 4 = .ok (.ifCond .eq 13, 3) := by decide +kernel
theorem zd_X_objects_7 : decode zb_X_objects 7 = .ok (.aload_n 0, 1) := by decide +kernel
theorem zd_X_objects_8 : decode zb_X_objects 8 = .ok (.getfield 10, 3) := by decide +kernel
theorem zd_X_objects_11 : decode zb_X_objects 11 = .ok (.invokevirtual 72, 3) := by decide +kernel
theorem zd_X_objects_14 : decode zb_X_objects 14 = .ok (.goto 4, 3) := by decide +kernel
theorem zd_X_objects_17 : decode zb_X_objects 17 = .ok (.iconst 0, 1) := by decide +kernel
theorem zd_X_objects_18 : decode zb_X_objects 18 = .ok (.ireturn, 1) := by decide +kernel
theorem zd_X_room_0 : decode zb_X_room 0 = .ok (.aload_n 0, 1) := by decide +kernel
theorem zd_X_room_1 : decode zb_X_room 1 = .ok (.getfield 19, 3) := by decide +kernel
theorem zd_X_room_4 : decode zb_X_room 4 = .ok (.ifCond .eq 17, 3) := by decide +kernel
theorem zd_X_room_7 : decode zb_X_room 7 = .ok (.sipush 200, 3) := by decide +kernel
theorem zd_X_room_10 : decode zb_X_room 10 = .ok (.aload_n 0, 1) := by decide +kernel
theorem zd_X_room_11 : decode zb_X_room 11 = .ok (.getfield 10, 3) := by decide +kernel
theorem zd_X_room_14 : decode zb_X_room 14 = .ok (.invokevirtual 75, 3) := by decide +kernel
theorem zd_X_room_17 : decode zb_X_room 17 = .ok (.isub, 1) := by decide +kernel
theorem zd_X_room_18 : decode zb_X_room 18 = .ok (.goto 4, 3) := by decide +kernel
theorem zd_X_room_21 : decode zb_X_room 21 = .ok (.iconst 0, 1) := by decide +kernel
theorem zd_X_room_22 : decode zb_X_room 22 = .ok (.ireturn, 1) := by decide +kernel
theorem zd_X_object_0 : decode zb_X_object 0 = .ok (.aload_n 0, 1) := by decide +kernel
theorem zd_X_object_1 : decode zb_X_object 1 = .ok (.iload_n 1, 1) := by decide +kernel
theorem zd_X_object_2 : decode zb_X_object 2 = .ok (.invokevirtual 42, 3) := by decide +kernel
theorem zd_X_object_5 : decode zb_X_object 5 = .ok (.ifCond .ne 5, 3) := by decide +kernel
theorem zd_X_object_8 : decode zb_X_object 8 = .ok (.iconst (-1), 1) := by decide +kernel
theorem zd_X_object_9 : decode zb_X_object 9 = .ok (.ireturn, 1) := by decide +kernel
theorem zd_X_object_10 : decode zb_X_object 10 = .ok (.iload_n 2, 1) := by decide +kernel
theorem zd_X_object_11 : decode zb_X_object 11 = .ok (.tableswitch 77 0 3 #[29, 39, 49, 59], 29) := by decide +kernel
theorem zd_X_object_40 : decode zb_X_object 40 = .ok (.aload_n 0, 1) := by decide +kernel
theorem zd_X_object_41 : decode zb_X_object 41 = .ok (.getfield 10, 3) := by decide +kernel
theorem zd_X_object_44 : decode zb_X_object 44 = .ok (.getfield 60, 3) := by decide +kernel
theorem zd_X_object_47 : decode zb_X_object 47 = .ok (.iload_n 1, 1) := by decide +kernel
theorem zd_X_object_48 : decode zb_X_object 48 = .ok (.iaload, 1) := by decide +kernel
theorem zd_X_object_49 : decode zb_X_object 49 = .ok (.ireturn, 1) := by decide +kernel
theorem zd_X_object_50 : decode zb_X_object 50 = .ok (.aload_n 0, 1) := by decide +kernel
theorem zd_X_object_51 : decode zb_X_object 51 = .ok (.getfield 10, 3) := by decide +kernel
theorem zd_X_object_54 : decode zb_X_object 54 = .ok (.getfield 78, 3) := by decide +kernel
theorem zd_X_object_57 : decode zb_X_object 57 = .ok (.iload_n 1, 1) := by decide +kernel
theorem zd_X_object_58 : decode zb_X_object 58 = .ok (.iaload, 1) := by decide +kernel
theorem zd_X_object_59 : decode zb_X_object 59 = .ok (.ireturn, 1) := by decide +kernel
theorem zd_X_object_60 : decode zb_X_object 60 = .ok (.aload_n 0, 1) := by decide +kernel
theorem zd_X_object_61 : decode zb_X_object 61 = .ok (.getfield 10, 3) := by decide +kernel
theorem zd_X_object_64 : decode zb_X_object 64 = .ok (.getfield 81, 3) := by decide +kernel
theorem zd_X_object_67 : decode zb_X_object 67 = .ok (.iload_n 1, 1) := by decide +kernel
theorem zd_X_object_68 : decode zb_X_object 68 = .ok (.iaload, 1) := by decide +kernel
theorem zd_X_object_69 : decode zb_X_object 69 = .ok (.ireturn, 1) := by decide +kernel
theorem zd_X_object_70 : decode zb_X_object 70 = .ok (.aload_n 0, 1) := by decide +kernel
theorem zd_X_object_71 : decode zb_X_object 71 = .ok (.getfield 10, 3) := by decide +kernel
theorem zd_X_object_74 : decode zb_X_object 74 = .ok (.getfield 45, 3) := by decide +kernel
theorem zd_X_object_77 : decode zb_X_object 77 = .ok (.iload_n 1, 1) := by decide +kernel
theorem zd_X_object_78 : decode zb_X_object 78 = .ok (.baload, 1) := by decide +kernel
theorem zd_X_object_79 : decode zb_X_object 79 = .ok (.ifCond .eq 7, 3) := by decide +kernel
theorem zd_X_object_82 : decode zb_X_object 82 = .ok (.iconst 1, 1) := by decide +kernel
theorem zd_X_object_83 : decode zb_X_object 83 = .ok (.goto 4, 3) := by decide +kernel
theorem zd_X_object_86 : decode zb_X_object 86 = .ok (.iconst 0, 1) := by decide +kernel
theorem zd_X_object_87 : decode zb_X_object 87 = .ok (.ireturn, 1) := by decide +kernel
theorem zd_X_object_88 : decode zb_X_object 88 = .ok (.iconst (-1), 1) := by decide +kernel
theorem zd_X_object_89 : decode zb_X_object 89 = .ok (.ireturn, 1) := by decide +kernel
theorem zd_X_word_0 : decode zb_X_word 0 = .ok (.aload_n 0, 1) := by decide +kernel
theorem zd_X_word_1 : decode zb_X_word 1 = .ok (.iload_n 1, 1) := by decide +kernel
theorem zd_X_word_2 : decode zb_X_word 2 = .ok (.invokevirtual 42, 3) := by decide +kernel
theorem zd_X_word_5 : decode zb_X_word 5 = .ok (.ifCond .eq 20, 3) := by decide +kernel
theorem zd_X_word_8 : decode zb_X_word 8 = .ok (.iload_n 2, 1) := by decide +kernel
theorem zd_X_word_9 : decode zb_X_word 9 = .ok (.ifCond .lt 16, 3) := by decide +kernel
theorem zd_X_word_12 : decode zb_X_word 12 = .ok (.iload_n 2, 1) := by decide +kernel
theorem zd_X_word_13 : decode zb_X_word 13 = .ok (.aload_n 0, 1) := by decide +kernel
theorem zd_X_word_14 : decode zb_X_word 14 = .ok (.getfield 10, 3) := by decide +kernel
theorem zd_X_word_17 : decode zb_X_word 17 = .ok (.getfield 81, 3) := by decide +kernel
theorem zd_X_word_20 : decode zb_X_word 20 = .ok (.iload_n 1, 1) := by decide +kernel
theorem zd_X_word_21 : decode zb_X_word 21 = .ok (.iaload, 1) := by decide +kernel
theorem zd_X_word_22 : decode zb_X_word 22 = .ok (.if_icmp .lt 5, 3) := by decide +kernel
theorem zd_X_word_25 : decode zb_X_word 25 = .ok (.iconst 0, 1) := by decide +kernel
theorem zd_X_word_26 : decode zb_X_word 26 = .ok (.ireturn, 1) := by decide +kernel
theorem zd_X_word_27 : decode zb_X_word 27 = .ok (.aload_n 0, 1) := by decide +kernel
theorem zd_X_word_28 : decode zb_X_word 28 = .ok (.getfield 10, 3) := by decide +kernel
theorem zd_X_word_31 : decode zb_X_word 31 = .ok (.getfield 84, 3) := by decide +kernel
theorem zd_X_word_34 : decode zb_X_word 34 = .ok (.iload_n 1, 1) := by decide +kernel
theorem zd_X_word_35 : decode zb_X_word 35 = .ok (.bipush 64, 2) := by decide +kernel
theorem zd_X_word_37 : decode zb_X_word 37 = .ok (.imul, 1) := by decide +kernel
theorem zd_X_word_38 : decode zb_X_word 38 = .ok (.iload_n 2, 1) := by decide +kernel
theorem zd_X_word_39 : decode zb_X_word 39 = .ok (.iadd, 1) := by decide +kernel
theorem zd_X_word_40 : decode zb_X_word 40 = .ok (.iaload, 1) := by decide +kernel
theorem zd_X_word_41 : decode zb_X_word 41 = .ok (.ireturn, 1) := by decide +kernel
theorem zd_X_find_0 : decode zb_X_find 0 = .ok (.aload_n 0, 1) := by decide +kernel
theorem zd_X_find_1 : decode zb_X_find 1 = .ok (.getfield 19, 3) := by decide +kernel
theorem zd_X_find_4 : decode zb_X_find 4 = .ok (.ifCond .eq 21, 3) := by decide +kernel
theorem zd_X_find_7 : decode zb_X_find 7 = .ok (.iload_n 1, 1) := by decide +kernel
theorem zd_X_find_8 : decode zb_X_find 8 = .ok (.invokestatic 87, 3) := by decide +kernel
theorem zd_X_find_11 : decode zb_X_find 11 = .ok (.ifCond .eq 14, 3) := by decide +kernel
theorem zd_X_find_14 : decode zb_X_find 14 = .ok (.aload_n 0, 1) := by decide +kernel
theorem zd_X_find_15 : decode zb_X_find 15 = .ok (.getfield 10, 3) := by decide +kernel
theorem zd_X_find_18 : decode zb_X_find 18 = .ok (.iload_n 1, 1) := by decide +kernel
theorem zd_X_find_19 : decode zb_X_find 19 = .ok (.invokevirtual 90, 3) := by decide +kernel
theorem zd_X_find_22 : decode zb_X_find 22 = .ok (.goto 4, 3) := by decide +kernel
theorem zd_X_find_25 : decode zb_X_find 25 = .ok (.iconst (-1), 1) := by decide +kernel
theorem zd_X_find_26 : decode zb_X_find 26 = .ok (.ireturn, 1) := by decide +kernel
theorem zd_X_list_0 : decode zb_X_list 0 = .ok (.aload_n 0, 1) := by decide +kernel
theorem zd_X_list_1 : decode zb_X_list 1 = .ok (.getfield 19, 3) := by decide +kernel
theorem zd_X_list_4 : decode zb_X_list 4 = .ok (.ifCond .eq 14, 3) := by decide +kernel
theorem zd_X_list_7 : decode zb_X_list 7 = .ok (.aload_n 0, 1) := by decide +kernel
theorem zd_X_list_8 : decode zb_X_list 8 = .ok (.getfield 10, 3) := by decide +kernel
theorem zd_X_list_11 : decode zb_X_list 11 = .ok (.iload_n 1, 1) := by decide +kernel
theorem zd_X_list_12 : decode zb_X_list 12 = .ok (.invokevirtual 93, 3) := by decide +kernel
theorem zd_X_list_15 : decode zb_X_list 15 = .ok (.goto 4, 3) := by decide +kernel
theorem zd_X_list_18 : decode zb_X_list 18 = .ok (.iconst (-1), 1) := by decide +kernel
theorem zd_X_list_19 : decode zb_X_list 19 = .ok (.ireturn, 1) := by decide +kernel
theorem zd_X_isThere_0 : decode zb_X_isThere 0 = .ok (.aload_n 0, 1) := by decide +kernel
theorem zd_X_isThere_1 : decode zb_X_isThere 1 = .ok (.getfield 19, 3) := by decide +kernel
theorem zd_X_isThere_4 : decode zb_X_isThere 4 = .ok (.ifCond .eq 28, 3) := by decide +kernel
theorem zd_X_isThere_7 : decode zb_X_isThere 7 = .ok (.iload_n 1, 1) := by decide +kernel
theorem zd_X_isThere_8 : decode zb_X_isThere 8 = .ok (.ifCond .lt 24, 3) := by decide +kernel
theorem zd_X_isThere_11 : decode zb_X_isThere 11 = .ok (.iload_n 1, 1) := by decide +kernel
theorem zd_X_isThere_12 : decode zb_X_isThere 12 = .ok (.bipush 24, 2) := by decide +kernel
theorem zd_X_isThere_14 : decode zb_X_isThere 14 = .ok (.if_icmp .ge 18, 3) := by decide +kernel
theorem zd_X_isThere_17 : decode zb_X_isThere 17 = .ok (.aload_n 0, 1) := by decide +kernel
theorem zd_X_isThere_18 : decode zb_X_isThere 18 = .ok (.getfield 10, 3) := by decide +kernel
theorem zd_X_isThere_21 : decode zb_X_isThere 21 = .ok (.iload_n 1, 1) := by decide +kernel
theorem zd_X_isThere_22 : decode zb_X_isThere 22 = .ok (.invokevirtual 96, 3) := by decide +kernel
theorem zd_X_isThere_25 : decode zb_X_isThere 25 = .ok (.ifCond .eq 7, 3) := by decide +kernel
theorem zd_X_isThere_28 : decode zb_X_isThere 28 = .ok (.iconst 1, 1) := by decide +kernel
theorem zd_X_isThere_29 : decode zb_X_isThere 29 = .ok (.goto 4, 3) := by decide +kernel
theorem zd_X_isThere_32 : decode zb_X_isThere 32 = .ok (.iconst 0, 1) := by decide +kernel
theorem zd_X_isThere_33 : decode zb_X_isThere 33 = .ok (.ireturn, 1) := by decide +kernel
theorem zd_X_isFreeName_0 : decode zb_X_isFreeName 0 = .ok (.iload_n 1, 1) := by decide +kernel
theorem zd_X_isFreeName_1 : decode zb_X_isFreeName 1 = .ok (.invokestatic 87, 3) := by decide +kernel
theorem zd_X_isFreeName_4 : decode zb_X_isFreeName 4 = .ok (.ifCond .eq 19, 3) := by decide +kernel
theorem zd_X_isFreeName_7 : decode zb_X_isFreeName 7 = .ok (.aload_n 0, 1) := by decide +kernel
theorem zd_X_isFreeName_8 : decode zb_X_isFreeName 8 = .ok (.getfield 10, 3) := by decide +kernel
theorem zd_X_isFreeName_11 : decode zb_X_isFreeName 11 = .ok (.iload_n 1, 1) := by decide +kernel
theorem zd_X_isFreeName_12 : decode zb_X_isFreeName 12 = .ok (.invokevirtual 90, 3) := by decide +kernel
theorem zd_X_isFreeName_15 : decode zb_X_isFreeName 15 = .ok (.iconst (-1), 1) := by decide +kernel
theorem zd_X_isFreeName_16 : decode zb_X_isFreeName 16 = .ok (.if_icmp .ne 7, 3) := by decide +kernel
theorem zd_X_isFreeName_19 : decode zb_X_isFreeName 19 = .ok (.iconst 1, 1) := by decide +kernel
theorem zd_X_isFreeName_20 : decode zb_X_isFreeName 20 = .ok (.goto 4, 3) := by decide +kernel
theorem zd_X_isFreeName_23 : decode zb_X_isFreeName 23 = .ok (.iconst 0, 1) := by decide +kernel
theorem zd_X_isFreeName_24 : decode zb_X_isFreeName 24 = .ok (.ireturn, 1) := by decide +kernel
theorem zd_X_roomIn_0 : decode zb_X_roomIn 0 = .ok (.bipush 64, 2) := by decide +kernel
theorem zd_X_roomIn_2 : decode zb_X_roomIn 2 = .ok (.aload_n 0, 1) := by decide +kernel
theorem zd_X_roomIn_3 : decode zb_X_roomIn 3 = .ok (.getfield 10, 3) := by decide +kernel
theorem zd_X_roomIn_6 : decode zb_X_roomIn 6 = .ok (.getfield 81, 3) := by decide +kernel
theorem zd_X_roomIn_9 : decode zb_X_roomIn 9 = .ok (.iload_n 1, 1) := by decide +kernel
theorem zd_X_roomIn_10 : decode zb_X_roomIn 10 = .ok (.iaload, 1) := by decide +kernel
theorem zd_X_roomIn_11 : decode zb_X_roomIn 11 = .ok (.isub, 1) := by decide +kernel
theorem zd_X_roomIn_12 : decode zb_X_roomIn 12 = .ok (.sipush 200, 3) := by decide +kernel
theorem zd_X_roomIn_15 : decode zb_X_roomIn 15 = .ok (.aload_n 0, 1) := by decide +kernel
theorem zd_X_roomIn_16 : decode zb_X_roomIn 16 = .ok (.getfield 10, 3) := by decide +kernel
theorem zd_X_roomIn_19 : decode zb_X_roomIn 19 = .ok (.invokevirtual 75, 3) := by decide +kernel
theorem zd_X_roomIn_22 : decode zb_X_roomIn 22 = .ok (.isub, 1) := by decide +kernel
theorem zd_X_roomIn_23 : decode zb_X_roomIn 23 = .ok (.invokestatic 99, 3) := by decide +kernel
theorem zd_X_roomIn_26 : decode zb_X_roomIn 26 = .ok (.ireturn, 1) := by decide +kernel
theorem zd_X_isName_0 : decode zb_X_isName 0 = .ok (.iload_n 0, 1) := by decide +kernel
theorem zd_X_isName_1 : decode zb_X_isName 1 = .ok (.ifCond .lt 14, 3) := by decide +kernel
theorem zd_X_isName_4 : decode zb_X_isName 4 = .ok (.iload_n 0, 1) := by decide +kernel
theorem zd_X_isName_5 : decode zb_X_isName 5 = .ok (.sipush 9999, 3) := by decide +kernel
theorem zd_X_isName_8 : decode zb_X_isName 8 = .ok (.if_icmp .gt 7, 3) := by decide +kernel
theorem zd_X_isName_11 : decode zb_X_isName 11 = .ok (.iconst 1, 1) := by decide +kernel
theorem zd_X_isName_12 : decode zb_X_isName 12 = .ok (.goto 4, 3) := by decide +kernel
theorem zd_X_isName_15 : decode zb_X_isName 15 = .ok (.iconst 0, 1) := by decide +kernel
theorem zd_X_isName_16 : decode zb_X_isName 16 = .ok (.ireturn, 1) := by decide +kernel
theorem zd_X_isHint_0 : decode zb_X_isHint 0 = .ok (.iload_n 0, 1) := by decide +kernel
theorem zd_X_isHint_1 : decode zb_X_isHint 1 = .ok (.ifCond .lt 12, 3) := by decide +kernel
theorem zd_X_isHint_4 : decode zb_X_isHint 4 = .ok (.iload_n 0, 1) := by decide +kernel
theorem zd_X_isHint_5 : decode zb_X_isHint 5 = .ok (.iconst 3, 1) := by decide +kernel
theorem zd_X_isHint_6 : decode zb_X_isHint 6 = .ok (.if_icmp .gt 7, 3) := by decide +kernel
theorem zd_X_isHint_9 : decode zb_X_isHint 9 = .ok (.iconst 1, 1) := by decide +kernel
theorem zd_X_isHint_10 : decode zb_X_isHint 10 = .ok (.goto 4, 3) := by decide +kernel
theorem zd_X_isHint_13 : decode zb_X_isHint 13 = .ok (.iconst 0, 1) := by decide +kernel
theorem zd_X_isHint_14 : decode zb_X_isHint 14 = .ok (.ireturn, 1) := by decide +kernel
theorem zd_C_init_0 : decode zb_C_init 0 = .ok (.aload_n 0, 1) := by decide +kernel
theorem zd_C_init_1 : decode zb_C_init 1 = .ok (.invokespecial 3, 3) := by decide +kernel
theorem zd_C_init_4 : decode zb_C_init 4 = .ok (.aload_n 0, 1) := by decide +kernel
theorem zd_C_init_5 : decode zb_C_init 5 = .ok (.bipush 24, 2) := by decide +kernel
theorem zd_C_init_7 : decode zb_C_init 7 = .ok (.newarray .int, 2) := by decide +kernel
theorem zd_C_init_9 : decode zb_C_init 9 = .ok (.putfield 9, 3) := by decide +kernel
theorem zd_C_init_12 : decode zb_C_init 12 = .ok (.aload_n 0, 1) := by decide +kernel
theorem zd_C_init_13 : decode zb_C_init 13 = .ok (.bipush 24, 2) := by decide +kernel
theorem zd_C_init_15 : decode zb_C_init 15 = .ok (.newarray .int, 2) := by decide +kernel
theorem zd_C_init_17 : decode zb_C_init 17 = .ok (.putfield 15, 3) := by decide +kernel
theorem zd_C_init_20 : decode zb_C_init 20 = .ok (.aload_n 0, 1) := by decide +kernel
theorem zd_C_init_21 : decode zb_C_init 21 = .ok (.bipush 24, 2) := by decide +kernel
theorem zd_C_init_23 : decode zb_C_init 23 = .ok (.newarray .int, 2) := by decide +kernel
theorem zd_C_init_25 : decode zb_C_init 25 = .ok (.putfield 18, 3) := by decide +kernel
theorem zd_C_init_28 : decode zb_C_init 28 = .ok (.aload_n 0, 1) := by decide +kernel
theorem zd_C_init_29 : decode zb_C_init 29 = .ok (.bipush 24, 2) := by decide +kernel
theorem zd_C_init_31 : decode zb_C_init 31 = .ok (.newarray .boolean, 2) := by decide +kernel
theorem zd_C_init_33 : decode zb_C_init 33 = .ok (.putfield 21, 3) := by decide +kernel
theorem zd_C_init_36 : decode zb_C_init 36 = .ok (.aload_n 0, 1) := by decide +kernel
theorem zd_C_init_37 : decode zb_C_init 37 = .ok (.sipush 1536, 3) := by decide +kernel
theorem zd_C_init_40 : decode zb_C_init 40 = .ok (.newarray .int, 2) := by decide +kernel
theorem zd_C_init_42 : decode zb_C_init 42 = .ok (.putfield 25, 3) := by decide +kernel
theorem zd_C_init_45 : decode zb_C_init 45 = .ok (.aload_n 0, 1) := by decide +kernel
theorem zd_C_init_46 : decode zb_C_init 46 = .ok (.getfield 9, 3) := by decide +kernel
theorem zd_C_init_49 : decode zb_C_init 49 = .ok (.iconst (-1), 1) := by decide +kernel
theorem zd_C_init_50 : decode zb_C_init 50 = .ok (.invokestatic 28, 3) := by decide +kernel
theorem zd_C_init_53 : decode zb_C_init 53 = .ok (.return_, 1) := by decide +kernel
theorem zd_C_isTaken_0 : decode zb_C_isTaken 0 = .ok (.aload_n 0, 1) := by decide +kernel
theorem zd_C_isTaken_1 : decode zb_C_isTaken 1 = .ok (.getfield 9, 3) := by decide +kernel
theorem zd_C_isTaken_4 : decode zb_C_isTaken 4 = .ok (.iload_n 1, 1) := by decide +kernel
theorem zd_C_isTaken_5 : decode zb_C_isTaken 5 = .ok (.iaload, 1) := by decide +kernel
theorem zd_C_isTaken_6 : decode zb_C_isTaken 6 = .ok (.iconst (-1), 1) := by decide +kernel
theorem zd_C_isTaken_7 : decode zb_C_isTaken 7 = .ok (.if_icmp .eq 7, 3) := by decide +kernel
theorem zd_C_isTaken_10 : decode zb_C_isTaken 10 = .ok (.iconst 1, 1) := by decide +kernel
theorem zd_C_isTaken_11 : decode zb_C_isTaken 11 = .ok (.goto 4, 3) := by decide +kernel
theorem zd_C_isTaken_14 : decode zb_C_isTaken 14 = .ok (.iconst 0, 1) := by decide +kernel
theorem zd_C_isTaken_15 : decode zb_C_isTaken 15 = .ok (.ireturn, 1) := by decide +kernel
theorem zd_C_leastFreeNumber_0 : decode zb_C_leastFreeNumber 0 = .ok (.iconst 0, 1) := by decide +kernel
theorem zd_C_leastFreeNumber_1 : decode zb_C_leastFreeNumber 1 = .ok (.istore_n 1, 1) := by decide +kernel
theorem zd_C_leastFreeNumber_2 : decode zb_C_leastFreeNumber 2 = .ok (.iload_n 1, 1) := by decide +kernel
theorem zd_C_leastFreeNumber_3 : decode zb_C_leastFreeNumber 3 = .ok (.bipush 24, 2) := by decide +kernel
theorem zd_C_leastFreeNumber_5 : decode zb_C_leastFreeNumber 5 = .ok (.if_icmp .ge 19, 3) := by decide +kernel
theorem zd_C_leastFreeNumber_8 : decode zb_C_leastFreeNumber 8 = .ok (.aload_n 0, 1) := by decide +kernel
theorem zd_C_leastFreeNumber_9 : decode zb_C_leastFreeNumber 9 = .ok (.iload_n 1, 1) := by decide +kernel
theorem zd_C_leastFreeNumber_10 : decode zb_C_leastFreeNumber 10 = .ok (.invokevirtual 34, 3) := by decide +kernel
theorem zd_C_leastFreeNumber_13 : decode zb_C_leastFreeNumber 13 = .ok (.ifCond .ne 5, 3) := by decide +kernel
theorem zd_C_leastFreeNumber_16 : decode zb_C_leastFreeNumber 16 = .ok (.iload_n 1, 1) := by decide +kernel
theorem zd_C_leastFreeNumber_17 : decode zb_C_leastFreeNumber 17 = .ok (.ireturn, 1) := by decide +kernel
theorem zd_C_leastFreeNumber_18 : decode zb_C_leastFreeNumber 18 = .ok (.iinc 1 1, 3) := by decide +kernel
theorem zd_C_leastFreeNumber_21 : decode zb_C_leastFreeNumber 21 = .ok (.goto (-19), 3) := by decide +kernel
theorem zd_C_leastFreeNumber_24 : decode zb_C_leastFreeNumber 24 = .ok (.iconst (-1), 1) := by decide +kernel
theorem zd_C_leastFreeNumber_25 : decode zb_C_leastFreeNumber 25 = .ok (.ireturn, 1) := by decide +kernel
theorem zd_C_numberOf_0 : decode zb_C_numberOf 0 = .ok (.iconst 0, 1) := by decide +kernel
theorem zd_C_numberOf_1 : decode zb_C_numberOf 1 = .ok (.istore_n 2, 1) := by decide +kernel
theorem zd_C_numberOf_2 : decode zb_C_numberOf 2 = .ok (.iload_n 2, 1) := by decide +kernel
theorem zd_C_numberOf_3 : decode zb_C_numberOf 3 = .ok (.bipush 24, 2) := by decide +kernel
theorem zd_C_numberOf_5 : decode zb_C_numberOf 5 = .ok (.if_icmp .ge 21, 3) := by decide +kernel
theorem zd_C_numberOf_8 : decode zb_C_numberOf 8 = .ok (.aload_n 0, 1) := by decide +kernel
theorem zd_C_numberOf_9 : decode zb_C_numberOf 9 = .ok (.getfield 9, 3) := by decide +kernel
theorem zd_C_numberOf_12 : decode zb_C_numberOf 12 = .ok (.iload_n 2, 1) := by decide +kernel
theorem zd_C_numberOf_13 : decode zb_C_numberOf 13 = .ok (.iaload, 1) := by decide +kernel
theorem zd_C_numberOf_14 : decode zb_C_numberOf 14 = .ok (.iload_n 1, 1) := by decide +kernel
theorem zd_C_numberOf_15 : decode zb_C_numberOf 15 = .ok (.if_icmp .ne 5, 3) := by decide +kernel
theorem zd_C_numberOf_18 : decode zb_C_numberOf 18 = .ok (.iload_n 2, 1) := by decide +kernel
theorem zd_C_numberOf_19 : decode zb_C_numberOf 19 = .ok (.ireturn, 1) := by decide +kernel
theorem zd_C_numberOf_20 : decode zb_C_numberOf 20 = .ok (.iinc 2 1, 3) := by decide +kernel
theorem zd_C_numberOf_23 : decode zb_C_numberOf 23 = .ok (.goto (-21), 3) := by decide +kernel
theorem zd_C_numberOf_26 : decode zb_C_numberOf 26 = .ok (.iconst (-1), 1) := by decide +kernel
theorem zd_C_numberOf_27 : decode zb_C_numberOf 27 = .ok (.ireturn, 1) := by decide +kernel
theorem zd_C_numberAtRank_0 : decode zb_C_numberAtRank 0 = .ok (.iconst 0, 1) := by decide +kernel
theorem zd_C_numberAtRank_1 : decode zb_C_numberAtRank 1 = .ok (.istore_n 2, 1) := by decide +kernel
theorem zd_C_numberAtRank_2 : decode zb_C_numberAtRank 2 = .ok (.iload_n 2, 1) := by decide +kernel
theorem zd_C_numberAtRank_3 : decode zb_C_numberAtRank 3 = .ok (.bipush 24, 2) := by decide +kernel
theorem zd_C_numberAtRank_5 : decode zb_C_numberAtRank 5 = .ok (.if_icmp .ge 33, 3) := by decide +kernel
theorem zd_C_numberAtRank_8 : decode zb_C_numberAtRank 8 = .ok (.aload_n 0, 1) := by decide +kernel
theorem zd_C_numberAtRank_9 : decode zb_C_numberAtRank 9 = .ok (.iload_n 2, 1) := by decide +kernel
theorem zd_C_numberAtRank_10 : decode zb_C_numberAtRank 10 = .ok (.invokevirtual 34, 3) := by decide +kernel
theorem zd_C_numberAtRank_13 : decode zb_C_numberAtRank 13 = .ok (.ifCond .eq 19, 3) := by decide +kernel
theorem zd_C_numberAtRank_16 : decode zb_C_numberAtRank 16 = .ok (.aload_n 0, 1) := by decide +kernel
theorem zd_C_numberAtRank_17 : decode zb_C_numberAtRank 17 = .ok (.aload_n 0, 1) := by decide +kernel
theorem zd_C_numberAtRank_18 : decode zb_C_numberAtRank 18 = .ok (.getfield 9, 3) := by decide +kernel
theorem zd_C_numberAtRank_21 : decode zb_C_numberAtRank 21 = .ok (.iload_n 2, 1) := by decide +kernel
theorem zd_C_numberAtRank_22 : decode zb_C_numberAtRank 22 = .ok (.iaload, 1) := by decide +kernel
theorem zd_C_numberAtRank_23 : decode zb_C_numberAtRank 23 = .ok (.invokevirtual 38, 3) := by decide +kernel
theorem zd_C_numberAtRank_26 : decode zb_C_numberAtRank 26 = .ok (.iload_n 1, 1) := by decide +kernel
theorem zd_C_numberAtRank_27 : decode zb_C_numberAtRank 27 = .ok (.if_icmp .ne 5, 3) := by decide +kernel
theorem zd_C_numberAtRank_30 : decode zb_C_numberAtRank 30 = .ok (.iload_n 2, 1) := by decide +kernel
theorem zd_C_numberAtRank_31 : decode zb_C_numberAtRank 31 = .ok (.ireturn, 1) := by decide +kernel
theorem zd_C_numberAtRank_32 : decode zb_C_numberAtRank 32 = .ok (.iinc 2 1, 3) := by decide +kernel
theorem zd_C_numberAtRank_35 : decode zb_C_numberAtRank 35 = .ok (.goto (-33), 3) := by decide +kernel
theorem zd_C_numberAtRank_38 : decode zb_C_numberAtRank 38 = .ok (.iconst (-1), 1) := by decide +kernel
theorem zd_C_numberAtRank_39 : decode zb_C_numberAtRank 39 = .ok (.ireturn, 1) := by decide +kernel
theorem zd_C_countNamesBelow_0 : decode zb_C_countNamesBelow 0 = .ok (.iconst 0, 1) := by decide +kernel
theorem zd_C_countNamesBelow_1 : decode zb_C_countNamesBelow 1 = .ok (.istore_n 2, 1) := by decide +kernel
theorem zd_C_countNamesBelow_2 : decode zb_C_countNamesBelow 2 = .ok (.iconst 0, 1) := by decide +kernel
theorem zd_C_countNamesBelow_3 : decode zb_C_countNamesBelow 3 = .ok (.istore_n 3, 1) := by decide +kernel
theorem zd_C_countNamesBelow_4 : decode zb_C_countNamesBelow 4 = .ok (.iload_n 3, 1) := by decide +kernel
theorem zd_C_countNamesBelow_5 : decode zb_C_countNamesBelow 5 = .ok (.bipush 24, 2) := by decide +kernel
theorem zd_C_countNamesBelow_7 : decode zb_C_countNamesBelow 7 = .ok (.if_icmp .ge 30, 3) := by decide +kernel
theorem zd_C_countNamesBelow_10 : decode zb_C_countNamesBelow 10 = .ok (.aload_n 0, 1) := by decide +kernel
theorem zd_C_countNamesBelow_11 : decode zb_C_countNamesBelow 11 = .ok (.iload_n 3, 1) := by decide +kernel
theorem zd_C_countNamesBelow_12 : decode zb_C_countNamesBelow 12 = .ok (.invokevirtual 34, 3) := by decide +kernel
theorem zd_C_countNamesBelow_15 : decode zb_C_countNamesBelow 15 = .ok (.ifCond .eq 16, 3) := by decide +kernel
theorem zd_C_countNamesBelow_18 : decode zb_C_countNamesBelow 18 = .ok (.aload_n 0, 1) := by decide +kernel
theorem zd_C_countNamesBelow_19 : decode zb_C_countNamesBelow 19 = .ok (.getfield 9, 3) := by decide +kernel
theorem zd_C_countNamesBelow_22 : decode zb_C_countNamesBelow 22 = .ok (.iload_n 3, 1) := by decide +kernel
theorem zd_C_countNamesBelow_23 : decode zb_C_countNamesBelow 23 = .ok (.iaload, 1) := by decide +kernel
theorem zd_C_countNamesBelow_24 : decode zb_C_countNamesBelow 24 = .ok (.iload_n 1, 1) := by decide +kernel
theorem zd_C_countNamesBelow_25 : decode zb_C_countNamesBelow 25 = .ok (.if_icmp .ge 6, 3) := by decide +kernel
theorem zd_C_countNamesBelow_28 : decode zb_C_countNamesBelow 28 = .ok (.iinc 2 1, 3) := by decide +kernel
theorem zd_C_countNamesBelow_31 : decode zb_C_countNamesBelow 31 = .ok (.iinc 3 1, 3) := by decide +kernel
theorem zd_C_countNamesBelow_34 : decode zb_C_countNamesBelow 34 = .ok (.goto (-30), 3) := by decide +kernel
theorem zd_C_countNamesBelow_37 : decode zb_C_countNamesBelow 37 = .ok (.iload_n 2, 1) := by decide +kernel
theorem zd_C_countNamesBelow_38 : decode zb_C_countNamesBelow 38 = .ok (.ireturn, 1) := by decide +kernel
theorem zd_C_countObjects_0 : decode zb_C_countObjects 0 = .ok (.iconst 0, 1) := by decide +kernel
theorem zd_C_countObjects_1 : decode zb_C_countObjects 1 = .ok (.istore_n 1, 1) := by decide +kernel
theorem zd_C_countObjects_2 : decode zb_C_countObjects 2 = .ok (.iconst 0, 1) := by decide +kernel
theorem zd_C_countObjects_3 : decode zb_C_countObjects 3 = .ok (.istore_n 2, 1) := by decide +kernel
theorem zd_C_countObjects_4 : decode zb_C_countObjects 4 = .ok (.iload_n 2, 1) := by decide +kernel
theorem zd_C_countObjects_5 : decode zb_C_countObjects 5 = .ok (.bipush 24, 2) := by decide +kernel
theorem zd_C_countObjects_7 : decode zb_C_countObjects 7 = .ok (.if_icmp .ge 20, 3) := by decide +kernel
theorem zd_C_countObjects_10 : decode zb_C_countObjects 10 = .ok (.aload_n 0, 1) := by decide +kernel
theorem zd_C_countObjects_11 : decode zb_C_countObjects 11 = .ok (.iload_n 2, 1) := by decide +kernel
theorem zd_C_countObjects_12 : decode zb_C_countObjects 12 = .ok (.invokevirtual 34, 3) := by decide +kernel
theorem zd_C_countObjects_15 : decode zb_C_countObjects 15 = .ok (.ifCond .eq 6, 3) := by decide +kernel
theorem zd_C_countObjects_18 : decode zb_C_countObjects 18 = .ok (.iinc 1 1, 3) := by decide +kernel
theorem zd_C_countObjects_21 : decode zb_C_countObjects 21 = .ok (.iinc 2 1, 3) := by decide +kernel
theorem zd_C_countObjects_24 : decode zb_C_countObjects 24 = .ok (.goto (-20), 3) := by decide +kernel
theorem zd_C_countObjects_27 : decode zb_C_countObjects 27 = .ok (.iload_n 1, 1) := by decide +kernel
theorem zd_C_countObjects_28 : decode zb_C_countObjects 28 = .ok (.ireturn, 1) := by decide +kernel
theorem zd_C_countWords_0 : decode zb_C_countWords 0 = .ok (.iconst 0, 1) := by decide +kernel
theorem zd_C_countWords_1 : decode zb_C_countWords 1 = .ok (.istore_n 1, 1) := by decide +kernel
theorem zd_C_countWords_2 : decode zb_C_countWords 2 = .ok (.iconst 0, 1) := by decide +kernel
theorem zd_C_countWords_3 : decode zb_C_countWords 3 = .ok (.istore_n 2, 1) := by decide +kernel
theorem zd_C_countWords_4 : decode zb_C_countWords 4 = .ok (.iload_n 2, 1) := by decide +kernel
theorem zd_C_countWords_5 : decode zb_C_countWords 5 = .ok (.bipush 24, 2) := by decide +kernel
theorem zd_C_countWords_7 : decode zb_C_countWords 7 = .ok (.if_icmp .ge 18, 3) := by decide +kernel
theorem zd_C_countWords_10 : decode zb_C_countWords 10 = .ok (.iload_n 1, 1) := by decide +kernel
theorem zd_C_countWords_11 : decode zb_C_countWords 11 = .ok (.aload_n 0, 1) := by decide +kernel
theorem zd_C_countWords_12 : decode zb_C_countWords 12 = .ok (.getfield 18, 3) := by decide +kernel
theorem zd_C_countWords_15 : decode zb_C_countWords 15 = .ok (.iload_n 2, 1) := by decide +kernel
theorem zd_C_countWords_16 : decode zb_C_countWords 16 = .ok (.iaload, 1) := by decide +kernel
theorem zd_C_countWords_17 : decode zb_C_countWords 17 = .ok (.iadd, 1) := by decide +kernel
theorem zd_C_countWords_18 : decode zb_C_countWords 18 = .ok (.istore_n 1, 1) := by decide +kernel
theorem zd_C_countWords_19 : decode zb_C_countWords 19 = .ok (.iinc 2 1, 3) := by decide +kernel
theorem zd_C_countWords_22 : decode zb_C_countWords 22 = .ok (.goto (-18), 3) := by decide +kernel
theorem zd_C_countWords_25 : decode zb_C_countWords 25 = .ok (.iload_n 1, 1) := by decide +kernel
theorem zd_C_countWords_26 : decode zb_C_countWords 26 = .ok (.ireturn, 1) := by decide +kernel
theorem zd_C_place_0 : decode zb_C_place 0 = .ok (.aload_n 0, 1) := by decide +kernel
theorem zd_C_place_1 : decode zb_C_place 1 = .ok (.getfield 9, 3) := by decide +kernel
theorem zd_C_place_4 : decode zb_C_place 4 = .ok (.iload_n 1, 1) := by decide +kernel
theorem zd_C_place_5 : decode zb_C_place 5 = .ok (.iload_n 2, 1) := by decide +kernel
theorem zd_C_place_6 : decode zb_C_place 6 = .ok (.iastore, 1) := by decide +kernel
theorem zd_C_place_7 : decode zb_C_place 7 = .ok (.aload_n 0, 1) := by decide +kernel
theorem zd_C_place_8 : decode zb_C_place 8 = .ok (.getfield 15, 3) := by decide +kernel
theorem zd_C_place_11 : decode zb_C_place 11 = .ok (.iload_n 1, 1) := by decide +kernel
theorem zd_C_place_12 : decode zb_C_place 12 = .ok (.iload_n 3, 1) := by decide +kernel
theorem zd_C_place_13 : decode zb_C_place 13 = .ok (.iastore, 1) := by decide +kernel
theorem zd_C_place_14 : decode zb_C_place 14 = .ok (.aload_n 0, 1) := by decide +kernel
theorem zd_C_place_15 : decode zb_C_place 15 = .ok (.getfield 21, 3) := by decide +kernel
theorem zd_C_place_18 : decode zb_C_place 18 = .ok (.iload_n 1, 1) := by decide +kernel
theorem zd_C_place_19 : decode zb_C_place 19 = .ok (.iconst 1, 1) := by decide +kernel
theorem zd_C_place_20 : decode zb_C_place 20 = .ok (.bastore, 1) := by decide +kernel
theorem zd_C_place_21 : decode zb_C_place 21 = .ok (.return_, 1) := by decide +kernel
theorem zd_C_takeAway_0 : decode zb_C_takeAway 0 = .ok (.aload_n 0, 1) := by decide +kernel
theorem zd_C_takeAway_1 : decode zb_C_takeAway 1 = .ok (.getfield 9, 3) := by decide +kernel
theorem zd_C_takeAway_4 : decode zb_C_takeAway 4 = .ok (.iload_n 1, 1) := by decide +kernel
theorem zd_C_takeAway_5 : decode zb_C_takeAway 5 = .ok (.iconst (-1), 1) := by decide +kernel
theorem zd_C_takeAway_6 : decode zb_C_takeAway 6 = .ok (.iastore, 1) := by decide +kernel
theorem zd_C_takeAway_7 : decode zb_C_takeAway 7 = .ok (.aload_n 0, 1) := by decide +kernel
theorem zd_C_takeAway_8 : decode zb_C_takeAway 8 = .ok (.getfield 18, 3) := by decide +kernel
theorem zd_C_takeAway_11 : decode zb_C_takeAway 11 = .ok (.iload_n 1, 1) := by decide +kernel
theorem zd_C_takeAway_12 : decode zb_C_takeAway 12 = .ok (.iconst 0, 1) := by decide +kernel
theorem zd_C_takeAway_13 : decode zb_C_takeAway 13 = .ok (.iastore, 1) := by decide +kernel
theorem zd_C_takeAway_14 : decode zb_C_takeAway 14 = .ok (.return_, 1) := by decide +kernel
theorem zd_C_addRow_0 : decode zb_C_addRow 0 = .ok (.iload_n 1, 1) := by decide +kernel
theorem zd_C_addRow_1 : decode zb_C_addRow 1 = .ok (.bipush 64, 2) := by decide +kernel
theorem zd_C_addRow_3 : decode zb_C_addRow 3 = .ok (.imul, 1) := by decide +kernel
theorem zd_C_addRow_4 : decode zb_C_addRow 4 = .ok (.aload_n 0, 1) := by decide +kernel
theorem zd_C_addRow_5 : decode zb_C_addRow 5 = .ok (.getfield 18, 3) := by decide +kernel
theorem zd_C_addRow_8 : decode zb_C_addRow 8 = .ok (.iload_n 1, 1) := by decide +kernel
theorem zd_C_addRow_9 : decode zb_C_addRow 9 = .ok (.iaload, 1) := by decide +kernel
theorem zd_C_addRow_10 : decode zb_C_addRow 10 = .ok (.iadd, 1) := by decide +kernel
theorem zd_C_addRow_11 : decode zb_C_addRow 11 = .ok (.istore 4, 2) := by decide +kernel
theorem zd_C_addRow_13 : decode zb_C_addRow 13 = .ok (.iconst 0, 1) := by decide +kernel
theorem zd_C_addRow_14 : decode zb_C_addRow 14 = .ok (.istore 5, 2) := by decide +kernel
theorem zd_C_addRow_16 : decode zb_C_addRow 16 = .ok (.iload 5, 2) := by decide +kernel
theorem zd_C_addRow_18 : decode zb_C_addRow 18 = .ok (.iload_n 3, 1) := by decide +kernel
theorem zd_C_addRow_19 : decode zb_C_addRow 19 = .ok (.if_icmp .ge 23, 3) := by decide +kernel
theorem zd_C_addRow_22 : decode zb_C_addRow 22 = .ok (.aload_n 0, 1) := by decide +kernel
theorem zd_C_addRow_23 : decode zb_C_addRow 23 = .ok (.getfield 25, 3) := by decide +kernel
theorem zd_C_addRow_26 : decode zb_C_addRow 26 = .ok (.iload 4, 2) := by decide +kernel
theorem zd_C_addRow_28 : decode zb_C_addRow 28 = .ok (.iload 5, 2) := by decide +kernel
theorem zd_C_addRow_30 : decode zb_C_addRow 30 = .ok (.iadd, 1) := by decide +kernel
theorem zd_C_addRow_31 : decode zb_C_addRow 31 = .ok (.iload_n 2, 1) := by decide +kernel
theorem zd_C_addRow_32 : decode zb_C_addRow 32 = .ok (.iload 5, 2) := by decide +kernel
theorem zd_C_addRow_34 : decode zb_C_addRow 34 = .ok (.iadd, 1) := by decide +kernel
theorem zd_C_addRow_35 : decode zb_C_addRow 35 = .ok (.iastore, 1) := by decide +kernel
theorem zd_C_addRow_36 : decode zb_C_addRow 36 = .ok (.iinc 5 1, 3) := by decide +kernel
theorem zd_C_addRow_39 : decode zb_C_addRow 39 = .ok (.goto (-23), 3) := by decide +kernel
theorem zd_C_addRow_42 : decode zb_C_addRow 42 = .ok (.aload_n 0, 1) := by decide +kernel
theorem zd_C_addRow_43 : decode zb_C_addRow 43 = .ok (.getfield 18, 3) := by decide +kernel
theorem zd_C_addRow_46 : decode zb_C_addRow 46 = .ok (.iload_n 1, 1) := by decide +kernel
theorem zd_C_addRow_47 : decode zb_C_addRow 47 = .ok (.dup2, 1) := by decide +kernel
theorem zd_C_addRow_48 : decode zb_C_addRow 48 = .ok (.iaload, 1) := by decide +kernel
theorem zd_C_addRow_49 : decode zb_C_addRow 49 = .ok (.iload_n 3, 1) := by decide +kernel
theorem zd_C_addRow_50 : decode zb_C_addRow 50 = .ok (.iadd, 1) := by decide +kernel
theorem zd_C_addRow_51 : decode zb_C_addRow 51 = .ok (.iastore, 1) := by decide +kernel
theorem zd_C_addRow_52 : decode zb_C_addRow 52 = .ok (.return_, 1) := by decide +kernel
theorem zd_C_copyFrom_0 : decode zb_C_copyFrom 0 = .ok (.iconst 0, 1) := by decide +kernel
theorem zd_C_copyFrom_1 : decode zb_C_copyFrom 1 = .ok (.istore_n 2, 1) := by decide +kernel
theorem zd_C_copyFrom_2 : decode zb_C_copyFrom 2 = .ok (.iload_n 2, 1) := by decide +kernel
theorem zd_C_copyFrom_3 : decode zb_C_copyFrom 3 = .ok (.bipush 24, 2) := by decide +kernel
theorem zd_C_copyFrom_5 : decode zb_C_copyFrom 5 = .ok (.if_icmp .ge 57, 3) := by decide +kernel
theorem zd_C_copyFrom_8 : decode zb_C_copyFrom 8 = .ok (.aload_n 0, 1) := by decide +kernel
theorem zd_C_copyFrom_9 : decode zb_C_copyFrom 9 = .ok (.getfield 9, 3) := by decide +kernel
theorem zd_C_copyFrom_12 : decode zb_C_copyFrom 12 = .ok (.iload_n 2, 1) := by decide +kernel
theorem zd_C_copyFrom_13 : decode zb_C_copyFrom 13 = .ok (.aload_n 1, 1) := by decide +kernel
theorem zd_C_copyFrom_14 : decode zb_C_copyFrom 14 = .ok (.getfield 9, 3) := by decide +kernel
theorem zd_C_copyFrom_17 : decode zb_C_copyFrom 17 = .ok (.iload_n 2, 1) := by decide +kernel
theorem zd_C_copyFrom_18 : decode zb_C_copyFrom 18 = .ok (.iaload, 1) := by decide +kernel
theorem zd_C_copyFrom_19 : decode zb_C_copyFrom 19 = .ok (.iastore, 1) := by decide +kernel
theorem zd_C_copyFrom_20 : decode zb_C_copyFrom 20 = .ok (.aload_n 0, 1) := by decide +kernel
theorem zd_C_copyFrom_21 : decode zb_C_copyFrom 21 = .ok (.getfield 15, 3) := by decide +kernel
theorem zd_C_copyFrom_24 : decode zb_C_copyFrom 24 = .ok (.iload_n 2, 1) := by decide +kernel
theorem zd_C_copyFrom_25 : decode zb_C_copyFrom 25 = .ok (.aload_n 1, 1) := by decide +kernel
theorem zd_C_copyFrom_26 : decode zb_C_copyFrom 26 = .ok (.getfield 15, 3) := by decide +kernel
theorem zd_C_copyFrom_29 : decode zb_C_copyFrom 29 = .ok (.iload_n 2, 1) := by decide +kernel
theorem zd_C_copyFrom_30 : decode zb_C_copyFrom 30 = .ok (.iaload, 1) := by decide +kernel
theorem zd_C_copyFrom_31 : decode zb_C_copyFrom 31 = .ok (.iastore, 1) := by decide +kernel
theorem zd_C_copyFrom_32 : decode zb_C_copyFrom 32 = .ok (.aload_n 0, 1) := by decide +kernel
theorem zd_C_copyFrom_33 : decode zb_C_copyFrom 33 = .ok (.getfield 18, 3) := by decide +kernel
theorem zd_C_copyFrom_36 : decode zb_C_copyFrom 36 = .ok (.iload_n 2, 1) := by decide +kernel
theorem zd_C_copyFrom_37 : decode zb_C_copyFrom 37 = .ok (.aload_n 1, 1) := by decide +kernel
theorem zd_C_copyFrom_38 : decode zb_C_copyFrom 38 = .ok (.getfield 18, 3) := by decide +kernel
theorem zd_C_copyFrom_41 : decode zb_C_copyFrom 41 = .ok (.iload_n 2, 1) := by decide +kernel
theorem zd_C_copyFrom_42 : decode zb_C_copyFrom 42 = .ok (.iaload, 1) := by decide +kernel
theorem zd_C_copyFrom_43 : decode zb_C_copyFrom 43 = .ok (.iastore, 1) := by decide +kernel
theorem zd_C_copyFrom_44 : decode zb_C_copyFrom 44 = .ok (.aload_n 0, 1) := by decide +kernel
theorem zd_C_copyFrom_45 : decode zb_C_copyFrom 45 = .ok (.getfield 21, 3) := by decide +kernel
theorem zd_C_copyFrom_48 : decode zb_C_copyFrom 48 = .ok (.iload_n 2, 1) := by decide +kernel
theorem zd_C_copyFrom_49 : decode zb_C_copyFrom 49 = .ok (.aload_n 1, 1) := by decide +kernel
theorem zd_C_copyFrom_50 : decode zb_C_copyFrom 50 = .ok (.getfield 21, 3) := by decide +kernel
theorem zd_C_copyFrom_53 : decode zb_C_copyFrom 53 = .ok (.iload_n 2, 1) := by decide +kernel
theorem zd_C_copyFrom_54 : decode zb_C_copyFrom 54 = .ok (.baload, 1) := by decide +kernel
theorem zd_C_copyFrom_55 : decode zb_C_copyFrom 55 = .ok (.bastore, 1) := by decide +kernel
theorem zd_C_copyFrom_56 : decode zb_C_copyFrom 56 = .ok (.iinc 2 1, 3) := by decide +kernel
theorem zd_C_copyFrom_59 : decode zb_C_copyFrom 59 = .ok (.goto (-57), 3) := by decide +kernel
theorem zd_C_copyFrom_62 : decode zb_C_copyFrom 62 = .ok (.aload_n 1, 1) := by decide +kernel
theorem zd_C_copyFrom_63 : decode zb_C_copyFrom 63 = .ok (.getfield 25, 3) := by decide +kernel
theorem zd_C_copyFrom_66 : decode zb_C_copyFrom 66 = .ok (.iconst 0, 1) := by decide +kernel
theorem zd_C_copyFrom_67 : decode zb_C_copyFrom 67 = .ok (.aload_n 0, 1) := by decide +kernel
theorem zd_C_copyFrom_68 : decode zb_C_copyFrom 68 = .ok (.getfield 25, 3) := by decide +kernel
theorem zd_C_copyFrom_71 : decode zb_C_copyFrom 71 = .ok (.iconst 0, 1) := by decide +kernel
theorem zd_C_copyFrom_72 : decode zb_C_copyFrom 72 = .ok (.aload_n 0, 1) := by decide +kernel
theorem zd_C_copyFrom_73 : decode zb_C_copyFrom 73 = .ok (.getfield 25, 3) := by decide +kernel
theorem zd_C_copyFrom_76 : decode zb_C_copyFrom 76 = .ok (.arraylength, 1) := by decide +kernel
theorem zd_C_copyFrom_77 : decode zb_C_copyFrom 77 = .ok (.invokestatic 42, 3) := by decide +kernel
theorem zd_C_copyFrom_80 : decode zb_C_copyFrom 80 = .ok (.return_, 1) := by decide +kernel
theorem zd_J_fill_0 : decode zb_J_fill 0 = .ok (.iconst 0, 1) := by decide +kernel
theorem zd_J_fill_1 : decode zb_J_fill 1 = .ok (.istore_n 2, 1) := by decide +kernel
theorem zd_J_fill_2 : decode zb_J_fill 2 = .ok (.aload_n 0, 1) := by decide +kernel
theorem zd_J_fill_3 : decode zb_J_fill 3 = .ok (.arraylength, 1) := by decide +kernel
theorem zd_J_fill_4 : decode zb_J_fill 4 = .ok (.istore_n 3, 1) := by decide +kernel
theorem zd_J_fill_5 : decode zb_J_fill 5 = .ok (.iload_n 2, 1) := by decide +kernel
theorem zd_J_fill_6 : decode zb_J_fill 6 = .ok (.iload_n 3, 1) := by decide +kernel
theorem zd_J_fill_7 : decode zb_J_fill 7 = .ok (.if_icmp .ge 13, 3) := by decide +kernel
theorem zd_J_fill_10 : decode zb_J_fill 10 = .ok (.aload_n 0, 1) := by decide +kernel
theorem zd_J_fill_11 : decode zb_J_fill 11 = .ok (.iload_n 2, 1) := by decide +kernel
theorem zd_J_fill_12 : decode zb_J_fill 12 = .ok (.iload_n 1, 1) := by decide +kernel
theorem zd_J_fill_13 : decode zb_J_fill 13 = .ok (.iastore, 1) := by decide +kernel
theorem zd_J_fill_14 : decode zb_J_fill 14 = .ok (.iinc 2 1, 3) := by decide +kernel
theorem zd_J_fill_17 : decode zb_J_fill 17 = .ok (.goto (-12), 3) := by decide +kernel
theorem zd_J_fill_20 : decode zb_J_fill 20 = .ok (.return_, 1) := by decide +kernel
