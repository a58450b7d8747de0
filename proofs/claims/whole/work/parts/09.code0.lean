theorem d_Rb_init_0 : decode b_Rb_init 0 = .ok (.aload_n 0, 1) := by decide +kernel
theorem d_Rb_init_1 : decode b_Rb_init 1 = .ok (.invokespecial 1, 3) := by decide +kernel
theorem d_Rb_init_4 : decode b_Rb_init 4 = .ok (.aload_n 0, 1) := by decide +kernel
theorem d_Rb_init_5 : decode b_Rb_init 5 = .ok (.new 7, 3) := by decide +kernel
theorem d_Rb_init_8 : decode b_Rb_init 8 = .ok (.dup, 1) := by decide +kernel
theorem d_Rb_init_9 : decode b_Rb_init 9 = .ok (.invokespecial 9, 3) := by decide +kernel
theorem d_Rb_init_12 : decode b_Rb_init 12 = .ok (.putfield 10, 3) := by decide +kernel
theorem d_Rb_init_15 : decode b_Rb_init 15 = .ok (.aload_n 0, 1) := by decide +kernel
theorem d_Rb_init_16 : decode b_Rb_init 16 = .ok (.new 16, 3) := by decide +kernel
theorem d_Rb_init_19 : decode b_Rb_init 19 = .ok (.dup, 1) := by decide +kernel
theorem d_Rb_init_20 : decode b_Rb_init 20 = .ok (.invokespecial 18, 3) := by decide +kernel
theorem d_Rb_init_23 : decode b_Rb_init 23 = .ok (.putfield 19, 3) := by decide +kernel
theorem d_Rb_init_26 : decode b_Rb_init 26 = .ok (.aload_n 0, 1) := by decide +kernel
theorem d_Rb_init_27 : decode b_Rb_init 27 = .ok (.new 16, 3) := by decide +kernel
theorem d_Rb_init_30 : decode b_Rb_init 30 = .ok (.dup, 1) := by decide +kernel
theorem d_Rb_init_31 : decode b_Rb_init 31 = .ok (.invokespecial 18, 3) := by decide +kernel
theorem d_Rb_init_34 : decode b_Rb_init 34 = .ok (.putfield 23, 3) := by decide +kernel
theorem d_Rb_init_37 : decode b_Rb_init 37 = .ok (.aload_n 0, 1) := by decide +kernel
theorem d_Rb_init_38 : decode b_Rb_init 38 = .ok (.new 26, 3) := by decide +kernel
theorem d_Rb_init_41 : decode b_Rb_init 41 = .ok (.dup, 1) := by decide +kernel
theorem d_Rb_init_42 : decode b_Rb_init 42 = .ok (.aload_n 0, 1) := by decide +kernel
theorem d_Rb_init_43 : decode b_Rb_init 43 = .ok (.getfield 10, 3) := by decide +kernel
theorem d_Rb_init_46 : decode b_Rb_init 46 = .ok (.invokespecial 28, 3) := by decide +kernel
theorem d_Rb_init_49 : decode b_Rb_init 49 = .ok (.putfield 31, 3) := by decide +kernel
theorem d_Rb_init_52 : decode b_Rb_init 52 = .ok (.aload_n 0, 1) := by decide +kernel
theorem d_Rb_init_53 : decode b_Rb_init 53 = .ok (.new 35, 3) := by decide +kernel
theorem d_Rb_init_56 : decode b_Rb_init 56 = .ok (.dup, 1) := by decide +kernel
theorem d_Rb_init_57 : decode b_Rb_init 57 = .ok (.invokespecial 37, 3) := by decide +kernel
theorem d_Rb_init_60 : decode b_Rb_init 60 = .ok (.putfield 38, 3) := by decide +kernel
theorem d_Rb_init_63 : decode b_Rb_init 63 = .ok (.aload_n 0, 1) := by decide +kernel
theorem d_Rb_init_64 : decode b_Rb_init 64 = .ok (.iconst 0, 1) := by decide +kernel
theorem d_Rb_init_65 : decode b_Rb_init 65 = .ok (.putfield 42, 3) := by decide +kernel
theorem d_Rb_init_68 : decode b_Rb_init 68 = .ok (.return_, 1) := by decide +kernel
theorem d_Rb_ups_0 : decode b_Rb_ups 0 = .ok (.aload_n 0, 1) := by decide +kernel
theorem d_Rb_ups_1 : decode b_Rb_ups 1 = .ok (.getfield 19, 3) := by decide +kernel
theorem d_Rb_ups_4 : decode b_Rb_ups 4 = .ok (.getfield 167, 3) := by decide +kernel
theorem d_Rb_ups_7 : decode b_Rb_ups 7 = .ok (.ireturn, 1) := by decide +kernel
theorem d_Rb_lit_0 : decode b_Rb_lit 0 = .ok (.aload_n 0, 1) := by decide +kernel
theorem d_Rb_lit_1 : decode b_Rb_lit 1 = .ok (.getfield 31, 3) := by decide +kernel
theorem d_Rb_lit_4 : decode b_Rb_lit 4 = .ok (.aload_n 0, 1) := by decide +kernel
theorem d_Rb_lit_5 : decode b_Rb_lit 5 = .ok (.getfield 19, 3) := by decide +kernel
theorem d_Rb_lit_8 : decode b_Rb_lit 8 = .ok (.aload_n 0, 1) := by decide +kernel
theorem d_Rb_lit_9 : decode b_Rb_lit 9 = .ok (.getfield 10, 3) := by decide +kernel
theorem d_Rb_lit_12 : decode b_Rb_lit 12 = .ok (.getfield 94, 3) := by decide +kernel
theorem d_Rb_lit_15 : decode b_Rb_lit 15 = .ok (.invokevirtual 155, 3) := by decide +kernel
theorem d_Rb_lit_18 : decode b_Rb_lit 18 = .ok (.ireturn, 1) := by decide +kernel
theorem d_Rb_hasBit_0 : decode b_Rb_hasBit 0 = .ok (.iload_n 0, 1) := by decide +kernel
theorem d_Rb_hasBit_1 : decode b_Rb_hasBit 1 = .ok (.iload_n 1, 1) := by decide +kernel
theorem d_Rb_hasBit_2 : decode b_Rb_hasBit 2 = .ok (.ishr, 1) := by decide +kernel
theorem d_Rb_hasBit_3 : decode b_Rb_hasBit 3 = .ok (.iconst 1, 1) := by decide +kernel
theorem d_Rb_hasBit_4 : decode b_Rb_hasBit 4 = .ok (.iand, 1) := by decide +kernel
theorem d_Rb_hasBit_5 : decode b_Rb_hasBit 5 = .ok (.ifCond .eq 7, 3) := by decide +kernel
theorem d_Rb_hasBit_8 : decode b_Rb_hasBit 8 = .ok (.iconst 1, 1) := by decide +kernel
theorem d_Rb_hasBit_9 : decode b_Rb_hasBit 9 = .ok (.goto 4, 3) := by decide +kernel
theorem d_Rb_hasBit_12 : decode b_Rb_hasBit 12 = .ok (.iconst 0, 1) := by decide +kernel
theorem d_Rb_hasBit_13 : decode b_Rb_hasBit 13 = .ok (.ireturn, 1) := by decide +kernel
theorem d_Rb_blown_0 : decode b_Rb_blown 0 = .ok (.aload_n 0, 1) := by decide +kernel
theorem d_Rb_blown_1 : decode b_Rb_blown 1 = .ok (.getfield 19, 3) := by decide +kernel
theorem d_Rb_blown_4 : decode b_Rb_blown 4 = .ok (.getfield 189, 3) := by decide +kernel
theorem d_Rb_blown_7 : decode b_Rb_blown 7 = .ok (.ireturn, 1) := by decide +kernel
theorem d_Rb_fuse_0 : decode b_Rb_fuse 0 = .ok (.aload_n 0, 1) := by decide +kernel
theorem d_Rb_fuse_1 : decode b_Rb_fuse 1 = .ok (.getfield 19, 3) := by decide +kernel
theorem d_Rb_fuse_4 : decode b_Rb_fuse 4 = .ok (.getfield 189, 3) := by decide +kernel
theorem d_Rb_fuse_7 : decode b_Rb_fuse 7 = .ok (.ifCond .eq 23, 3) := by decide +kernel
theorem d_Rb_fuse_10 : decode b_Rb_fuse 10 = .ok (.aload_n 0, 1) := by decide +kernel
theorem d_Rb_fuse_11 : decode b_Rb_fuse 11 = .ok (.getfield 19, 3) := by decide +kernel
theorem d_Rb_fuse_14 : decode b_Rb_fuse 14 = .ok (.iconst 0, 1) := by decide +kernel
theorem d_Rb_fuse_15 : decode b_Rb_fuse 15 = .ok (.putfield 189, 3) := by decide +kernel
theorem d_Rb_fuse_18 : decode b_Rb_fuse 18 = .ok (.aload_n 0, 1) := by decide +kernel
theorem d_Rb_fuse_19 : decode b_Rb_fuse 19 = .ok (.getfield 31, 3) := by decide +kernel
theorem d_Rb_fuse_22 : decode b_Rb_fuse 22 = .ok (.aload_n 0, 1) := by decide +kernel
theorem d_Rb_fuse_23 : decode b_Rb_fuse 23 = .ok (.getfield 19, 3) := by decide +kernel
theorem d_Rb_fuse_26 : decode b_Rb_fuse 26 = .ok (.invokevirtual 66, 3) := by decide +kernel
theorem d_Rb_fuse_29 : decode b_Rb_fuse 29 = .ok (.pop, 1) := by decide +kernel
theorem d_Rb_fuse_30 : decode b_Rb_fuse 30 = .ok (.aload_n 0, 1) := by decide +kernel
theorem d_Rb_fuse_31 : decode b_Rb_fuse 31 = .ok (.getfield 19, 3) := by decide +kernel
theorem d_Rb_fuse_34 : decode b_Rb_fuse 34 = .ok (.getfield 189, 3) := by decide +kernel
theorem d_Rb_fuse_37 : decode b_Rb_fuse 37 = .ok (.ifCond .ne 7, 3) := by decide +kernel
theorem d_Rb_fuse_40 : decode b_Rb_fuse 40 = .ok (.iconst 1, 1) := by decide +kernel
theorem d_Rb_fuse_41 : decode b_Rb_fuse 41 = .ok (.goto 4, 3) := by decide +kernel
theorem d_Rb_fuse_44 : decode b_Rb_fuse 44 = .ok (.iconst 0, 1) := by decide +kernel
theorem d_Rb_fuse_45 : decode b_Rb_fuse 45 = .ok (.ireturn, 1) := by decide +kernel
theorem d_Rb_count_0 : decode b_Rb_count 0 = .ok (.iload_n 1, 1) := by decide +kernel
theorem d_Rb_count_1 : decode b_Rb_count 1 = .ok (.tableswitch 118 0 6 #[43, 54, 65, 76, 87, 98, 113], 43) := by decide +kernel
theorem d_Rb_count_44 : decode b_Rb_count 44 = .ok (.aload_n 0, 1) := by decide +kernel
theorem d_Rb_count_45 : decode b_Rb_count 45 = .ok (.getfield 10, 3) := by decide +kernel
theorem d_Rb_count_48 : decode b_Rb_count 48 = .ok (.getfield 54, 3) := by decide +kernel
theorem d_Rb_count_51 : decode b_Rb_count 51 = .ok (.getfield 101, 3) := by decide +kernel
theorem d_Rb_count_54 : decode b_Rb_count 54 = .ok (.ireturn, 1) := by decide +kernel
theorem d_Rb_count_55 : decode b_Rb_count 55 = .ok (.aload_n 0, 1) := by decide +kernel
theorem d_Rb_count_56 : decode b_Rb_count 56 = .ok (.getfield 10, 3) := by decide +kernel
theorem d_Rb_count_59 : decode b_Rb_count 59 = .ok (.getfield 78, 3) := by decide +kernel
theorem d_Rb_count_62 : decode b_Rb_count 62 = .ok (.getfield 101, 3) := by decide +kernel
theorem d_Rb_count_65 : decode b_Rb_count 65 = .ok (.ireturn, 1) := by decide +kernel
theorem d_Rb_count_66 : decode b_Rb_count 66 = .ok (.aload_n 0, 1) := by decide +kernel
theorem d_Rb_count_67 : decode b_Rb_count 67 = .ok (.getfield 10, 3) := by decide +kernel
theorem d_Rb_count_70 : decode b_Rb_count 70 = .ok (.getfield 84, 3) := by decide +kernel
theorem d_Rb_count_73 : decode b_Rb_count 73 = .ok (.getfield 101, 3) := by decide +kernel
theorem d_Rb_count_76 : decode b_Rb_count 76 = .ok (.ireturn, 1) := by decide +kernel
theorem d_Rb_count_77 : decode b_Rb_count 77 = .ok (.aload_n 0, 1) := by decide +kernel
theorem d_Rb_count_78 : decode b_Rb_count 78 = .ok (.getfield 10, 3) := by decide +kernel
theorem d_Rb_count_81 : decode b_Rb_count 81 = .ok (.getfield 91, 3) := by decide +kernel
theorem d_Rb_count_84 : decode b_Rb_count 84 = .ok (.getfield 101, 3) := by decide +kernel
theorem d_Rb_count_87 : decode b_Rb_count 87 = .ok (.ireturn, 1) := by decide +kernel
theorem d_Rb_count_88 : decode b_Rb_count 88 = .ok (.aload_n 0, 1) := by decide +kernel
theorem d_Rb_count_89 : decode b_Rb_count 89 = .ok (.getfield 10, 3) := by decide +kernel
theorem d_Rb_count_92 : decode b_Rb_count 92 = .ok (.getfield 94, 3) := by decide +kernel
theorem d_Rb_count_95 : decode b_Rb_count 95 = .ok (.getfield 101, 3) := by decide +kernel
theorem d_Rb_count_98 : decode b_Rb_count 98 = .ok (.ireturn, 1) := by decide +kernel
theorem d_Rb_count_99 : decode b_Rb_count 99 = .ok (.aload_n 0, 1) := by decide +kernel
theorem d_Rb_count_100 : decode b_Rb_count 100 = .ok (.getfield 31, 3) := by decide +kernel
theorem d_Rb_count_103 : decode b_Rb_count 103 = .ok (.aload_n 0, 1) := by decide +kernel
theorem d_Rb_count_104 : decode b_Rb_count 104 = .ok (.getfield 19, 3) := by decide +kernel
theorem d_Rb_count_107 : decode b_Rb_count 107 = .ok (.invokevirtual 173, 3) := by decide +kernel
theorem d_Rb_count_110 : decode b_Rb_count 110 = .ok (.getfield 193, 3) := by decide +kernel
theorem d_Rb_count_113 : decode b_Rb_count 113 = .ok (.ireturn, 1) := by decide +kernel
theorem d_Rb_count_114 : decode b_Rb_count 114 = .ok (.aload_n 0, 1) := by decide +kernel
theorem d_Rb_count_115 : decode b_Rb_count 115 = .ok (.getfield 42, 3) := by decide +kernel
theorem d_Rb_count_118 : decode b_Rb_count 118 = .ok (.ireturn, 1) := by decide +kernel
theorem d_Rb_count_119 : decode b_Rb_count 119 = .ok (.iconst (-1), 1) := by decide +kernel
theorem d_Rb_count_120 : decode b_Rb_count 120 = .ok (.ireturn, 1) := by decide +kernel
theorem d_Rb_relay_0 : decode b_Rb_relay 0 = .ok (.iload_n 1, 1) := by decide +kernel
theorem d_Rb_relay_1 : decode b_Rb_relay 1 = .ok (.iload_n 2, 1) := by decide +kernel
theorem d_Rb_relay_2 : decode b_Rb_relay 2 = .ok (.invokestatic 46, 3) := by decide +kernel
theorem d_Rb_relay_5 : decode b_Rb_relay 5 = .ok (.iload_n 3, 1) := by decide +kernel
theorem d_Rb_relay_6 : decode b_Rb_relay 6 = .ok (.invokestatic 50, 3) := by decide +kernel
theorem d_Rb_relay_9 : decode b_Rb_relay 9 = .ok (.iload 4, 2) := by decide +kernel
theorem d_Rb_relay_11 : decode b_Rb_relay 11 = .ok (.invokestatic 50, 3) := by decide +kernel
theorem d_Rb_relay_14 : decode b_Rb_relay 14 = .ok (.aload_n 0, 1) := by decide +kernel
theorem d_Rb_relay_15 : decode b_Rb_relay 15 = .ok (.getfield 10, 3) := by decide +kernel
theorem d_Rb_relay_18 : decode b_Rb_relay 18 = .ok (.getfield 54, 3) := by decide +kernel
theorem d_Rb_relay_21 : decode b_Rb_relay 21 = .ok (.invokestatic 58, 3) := by decide +kernel
theorem d_Rb_relay_24 : decode b_Rb_relay 24 = .ok (.aload_n 0, 1) := by decide +kernel
theorem d_Rb_relay_25 : decode b_Rb_relay 25 = .ok (.getfield 10, 3) := by decide +kernel
theorem d_Rb_relay_28 : decode b_Rb_relay 28 = .ok (.iload_n 1, 1) := by decide +kernel
theorem d_Rb_relay_29 : decode b_Rb_relay 29 = .ok (.iload_n 2, 1) := by decide +kernel
theorem d_Rb_relay_30 : decode b_Rb_relay 30 = .ok (.iload_n 3, 1) := by decide +kernel
theorem d_Rb_relay_31 : decode b_Rb_relay 31 = .ok (.iload 4, 2) := by decide +kernel
theorem d_Rb_relay_33 : decode b_Rb_relay 33 = .ok (.invokevirtual 62, 3) := by decide +kernel
theorem d_Rb_relay_36 : decode b_Rb_relay 36 = .ok (.istore 5, 2) := by decide +kernel
theorem d_Rb_relay_38 : decode b_Rb_relay 38 = .ok (.aload_n 0, 1) := by decide +kernel
theorem d_Rb_relay_39 : decode b_Rb_relay 39 = .ok (.getfield 31, 3) := by decide +kernel
theorem d_Rb_relay_42 : decode b_Rb_relay 42 = .ok (.aload_n 0, 1) := by decide +kernel
theorem d_Rb_relay_43 : decode b_Rb_relay 43 = .ok (.getfield 19, 3) := by decide +kernel
theorem d_Rb_relay_46 : decode b_Rb_relay 46 = .ok (.invokevirtual 66, 3) := by decide +kernel
theorem d_Rb_relay_49 : decode b_Rb_relay 49 = .ok (.pop, 1) := by decide +kernel
theorem d_Rb_relay_50 : decode b_Rb_relay 50 = .ok (.iload 5, 2) := by decide +kernel
theorem d_Rb_relay_52 : decode b_Rb_relay 52 = .ok (.ireturn, 1) := by decide +kernel
theorem d_Rb_needTwoNodes_0 : decode b_Rb_needTwoNodes 0 = .ok (.iload_n 0, 1) := by decide +kernel
theorem d_Rb_needTwoNodes_1 : decode b_Rb_needTwoNodes 1 = .ok (.invokestatic 170, 3) := by decide +kernel
theorem d_Rb_needTwoNodes_4 : decode b_Rb_needTwoNodes 4 = .ok (.iload_n 1, 1) := by decide +kernel
theorem d_Rb_needTwoNodes_5 : decode b_Rb_needTwoNodes 5 = .ok (.invokestatic 170, 3) := by decide +kernel
theorem d_Rb_needTwoNodes_8 : decode b_Rb_needTwoNodes 8 = .ok (.iload_n 0, 1) := by decide +kernel
theorem d_Rb_needTwoNodes_9 : decode b_Rb_needTwoNodes 9 = .ok (.iload_n 1, 1) := by decide +kernel
theorem d_Rb_needTwoNodes_10 : decode b_Rb_needTwoNodes 10 = .ok (.if_icmp .ne 13, 3) := by decide +kernel
theorem d_Rb_needTwoNodes_13 : decode b_Rb_needTwoNodes 13 = .ok (.new 162, 3) := by decide +kernel
theorem d_Rb_needTwoNodes_16 : decode b_Rb_needTwoNodes 16 = .ok (.dup, 1) := by decide +kernel
theorem d_Rb_needTwoNodes_17 : decode b_Rb_needTwoNodes 17 = .ok (.ldc 202, 2) := by decide +kernel
theorem d_Rb_needTwoNodes_19 : decode b_Rb_needTwoNodes 19 = .ok (.invokespecial 166, 3) := by decide +kernel
theorem d_Rb_needTwoNodes_22 : decode b_Rb_needTwoNodes 22 = .ok (.athrow, 1) := by decide +kernel
theorem d_Rb_needTwoNodes_23 : decode b_Rb_needTwoNodes 23 = .ok (.return_, 1) := by decide +kernel
theorem d_Rb_needNode_0 : decode b_Rb_needNode 0 = .ok (.iload_n 0, 1) := by decide +kernel
theorem d_Rb_needNode_1 : decode b_Rb_needNode 1 = .ok (.iconst 0, 1) := by decide +kernel
theorem d_Rb_needNode_2 : decode b_Rb_needNode 2 = .ok (.bipush 47, 2) := by decide +kernel
theorem d_Rb_needNode_4 : decode b_Rb_needNode 4 = .ok (.invokestatic 70, 3) := by decide +kernel
theorem d_Rb_needNode_7 : decode b_Rb_needNode 7 = .ok (.return_, 1) := by decide +kernel
theorem d_Rb_needWithin_0 : decode b_Rb_needWithin 0 = .ok (.iload_n 0, 1) := by decide +kernel
theorem d_Rb_needWithin_1 : decode b_Rb_needWithin 1 = .ok (.iload_n 1, 1) := by decide +kernel
theorem d_Rb_needWithin_2 : decode b_Rb_needWithin 2 = .ok (.if_icmp .lt 8, 3) := by decide +kernel
theorem d_Rb_needWithin_5 : decode b_Rb_needWithin 5 = .ok (.iload_n 0, 1) := by decide +kernel
theorem d_Rb_needWithin_6 : decode b_Rb_needWithin 6 = .ok (.iload_n 2, 1) := by decide +kernel
theorem d_Rb_needWithin_7 : decode b_Rb_needWithin 7 = .ok (.if_icmp .le 13, 3) := by decide +kernel
theorem d_Rb_needWithin_10 : decode b_Rb_needWithin 10 = .ok (.new 162, 3) := by decide +kernel
theorem d_Rb_needWithin_13 : decode b_Rb_needWithin 13 = .ok (.dup, 1) := by decide +kernel
theorem d_Rb_needWithin_14 : decode b_Rb_needWithin 14 = .ok (.ldc 200, 2) := by decide +kernel
theorem d_Rb_needWithin_16 : decode b_Rb_needWithin 16 = .ok (.invokespecial 166, 3) := by decide +kernel
theorem d_Rb_needWithin_19 : decode b_Rb_needWithin 19 = .ok (.athrow, 1) := by decide +kernel
theorem d_Rb_needWithin_20 : decode b_Rb_needWithin 20 = .ok (.return_, 1) := by decide +kernel
theorem d_Rb_needTime_0 : decode b_Rb_needTime 0 = .ok (.iload_n 0, 1) := by decide +kernel
theorem d_Rb_needTime_1 : decode b_Rb_needTime 1 = .ok (.iconst 1, 1) := by decide +kernel
theorem d_Rb_needTime_2 : decode b_Rb_needTime 2 = .ok (.bipush 9, 2) := by decide +kernel
theorem d_Rb_needTime_4 : decode b_Rb_needTime 4 = .ok (.invokestatic 70, 3) := by decide +kernel
theorem d_Rb_needTime_7 : decode b_Rb_needTime 7 = .ok (.return_, 1) := by decide +kernel
theorem d_Rb_needRoom_0 : decode b_Rb_needRoom 0 = .ok (.aload_n 0, 1) := by decide +kernel
theorem d_Rb_needRoom_1 : decode b_Rb_needRoom 1 = .ok (.invokevirtual 204, 3) := by decide +kernel
theorem d_Rb_needRoom_4 : decode b_Rb_needRoom 4 = .ok (.ifCond .eq 13, 3) := by decide +kernel
theorem d_Rb_needRoom_7 : decode b_Rb_needRoom 7 = .ok (.new 208, 3) := by decide +kernel
theorem d_Rb_needRoom_10 : decode b_Rb_needRoom 10 = .ok (.dup, 1) := by decide +kernel
theorem d_Rb_needRoom_11 : decode b_Rb_needRoom 11 = .ok (.ldc 210, 2) := by decide +kernel
theorem d_Rb_needRoom_13 : decode b_Rb_needRoom 13 = .ok (.invokespecial 212, 3) := by decide +kernel
theorem d_Rb_needRoom_16 : decode b_Rb_needRoom 16 = .ok (.athrow, 1) := by decide +kernel
theorem d_Rb_needRoom_17 : decode b_Rb_needRoom 17 = .ok (.return_, 1) := by decide +kernel
theorem d_Rb_contact_0 : decode b_Rb_contact 0 = .ok (.iload_n 1, 1) := by decide +kernel
theorem d_Rb_contact_1 : decode b_Rb_contact 1 = .ok (.iconst 0, 1) := by decide +kernel
theorem d_Rb_contact_2 : decode b_Rb_contact 2 = .ok (.iconst 4, 1) := by decide +kernel
theorem d_Rb_contact_3 : decode b_Rb_contact 3 = .ok (.invokestatic 70, 3) := by decide +kernel
theorem d_Rb_contact_6 : decode b_Rb_contact 6 = .ok (.iload_n 1, 1) := by decide +kernel
theorem d_Rb_contact_7 : decode b_Rb_contact 7 = .ok (.iconst 4, 1) := by decide +kernel
theorem d_Rb_contact_8 : decode b_Rb_contact 8 = .ok (.if_icmp .eq 14, 3) := by decide +kernel
theorem d_Rb_contact_11 : decode b_Rb_contact 11 = .ok (.aload_n 0, 1) := by decide +kernel
theorem d_Rb_contact_12 : decode b_Rb_contact 12 = .ok (.getfield 10, 3) := by decide +kernel
theorem d_Rb_contact_15 : decode b_Rb_contact 15 = .ok (.getfield 54, 3) := by decide +kernel
theorem d_Rb_contact_18 : decode b_Rb_contact 18 = .ok (.iload_n 2, 1) := by decide +kernel
theorem d_Rb_contact_19 : decode b_Rb_contact 19 = .ok (.invokestatic 74, 3) := by decide +kernel
theorem d_Rb_contact_22 : decode b_Rb_contact 22 = .ok (.iload_n 3, 1) := by decide +kernel
theorem d_Rb_contact_23 : decode b_Rb_contact 23 = .ok (.iload 4, 2) := by decide +kernel
theorem d_Rb_contact_25 : decode b_Rb_contact 25 = .ok (.invokestatic 46, 3) := by decide +kernel
theorem d_Rb_contact_28 : decode b_Rb_contact 28 = .ok (.aload_n 0, 1) := by decide +kernel
theorem d_Rb_contact_29 : decode b_Rb_contact 29 = .ok (.getfield 10, 3) := by decide +kernel
theorem d_Rb_contact_32 : decode b_Rb_contact 32 = .ok (.getfield 78, 3) := by decide +kernel
theorem d_Rb_contact_35 : decode b_Rb_contact 35 = .ok (.invokestatic 58, 3) := by decide +kernel
theorem d_Rb_contact_38 : decode b_Rb_contact 38 = .ok (.aload_n 0, 1) := by decide +kernel
theorem d_Rb_contact_39 : decode b_Rb_contact 39 = .ok (.getfield 10, 3) := by decide +kernel
theorem d_Rb_contact_42 : decode b_Rb_contact 42 = .ok (.iload_n 1, 1) := by decide +kernel
theorem d_Rb_contact_43 : decode b_Rb_contact 43 = .ok (.iload_n 2, 1) := by decide +kernel
theorem d_Rb_contact_44 : decode b_Rb_contact 44 = .ok (.iload_n 3, 1) := by decide +kernel
theorem d_Rb_contact_45 : decode b_Rb_contact 45 = .ok (.iload 4, 2) := by decide +kernel
theorem d_Rb_contact_47 : decode b_Rb_contact 47 = .ok (.invokevirtual 81, 3) := by decide +kernel
theorem d_Rb_contact_50 : decode b_Rb_contact 50 = .ok (.istore 5, 2) := by decide +kernel
theorem d_Rb_contact_52 : decode b_Rb_contact 52 = .ok (.aload_n 0, 1) := by decide +kernel
theorem d_Rb_contact_53 : decode b_Rb_contact 53 = .ok (.getfield 31, 3) := by decide +kernel
theorem d_Rb_contact_56 : decode b_Rb_contact 56 = .ok (.aload_n 0, 1) := by decide +kernel
theorem d_Rb_contact_57 : decode b_Rb_contact 57 = .ok (.getfield 19, 3) := by decide +kernel
theorem d_Rb_contact_60 : decode b_Rb_contact 60 = .ok (.invokevirtual 66, 3) := by decide +kernel
theorem d_Rb_contact_63 : decode b_Rb_contact 63 = .ok (.pop, 1) := by decide +kernel
theorem d_Rb_contact_64 : decode b_Rb_contact 64 = .ok (.iload 5, 2) := by decide +kernel
theorem d_Rb_contact_66 : decode b_Rb_contact 66 = .ok (.ireturn, 1) := by decide +kernel
theorem d_Rb_needPart_0 : decode b_Rb_needPart 0 = .ok (.iload_n 1, 1) := by decide +kernel
theorem d_Rb_needPart_1 : decode b_Rb_needPart 1 = .ok (.iconst 0, 1) := by decide +kernel
theorem d_Rb_needPart_2 : decode b_Rb_needPart 2 = .ok (.aload_n 0, 1) := by decide +kernel
theorem d_Rb_needPart_3 : decode b_Rb_needPart 3 = .ok (.getfield 101, 3) := by decide +kernel
theorem d_Rb_needPart_6 : decode b_Rb_needPart 6 = .ok (.iconst 1, 1) := by decide +kernel
theorem d_Rb_needPart_7 : decode b_Rb_needPart 7 = .ok (.isub, 1) := by decide +kernel
theorem d_Rb_needPart_8 : decode b_Rb_needPart 8 = .ok (.invokestatic 70, 3) := by decide +kernel
theorem d_Rb_needPart_11 : decode b_Rb_needPart 11 = .ok (.return_, 1) := by decide +kernel
theorem d_Rb_knob_0 : decode b_Rb_knob 0 = .ok (.aload_n 0, 1) := by decide +kernel
theorem d_Rb_knob_1 : decode b_Rb_knob 1 = .ok (.aload_n 0, 1) := by decide +kernel
theorem d_Rb_knob_2 : decode b_Rb_knob 2 = .ok (.getfield 10, 3) := by decide +kernel
theorem d_Rb_knob_5 : decode b_Rb_knob 5 = .ok (.getfield 84, 3) := by decide +kernel
theorem d_Rb_knob_8 : decode b_Rb_knob 8 = .ok (.iload_n 1, 1) := by decide +kernel
theorem d_Rb_knob_9 : decode b_Rb_knob 9 = .ok (.iload_n 2, 1) := by decide +kernel
theorem d_Rb_knob_10 : decode b_Rb_knob 10 = .ok (.invokevirtual 87, 3) := by decide +kernel
theorem d_Rb_knob_13 : decode b_Rb_knob 13 = .ok (.ireturn, 1) := by decide +kernel
theorem d_Rb_place_0 : decode b_Rb_place 0 = .ok (.iload_n 2, 1) := by decide +kernel
theorem d_Rb_place_1 : decode b_Rb_place 1 = .ok (.iload_n 3, 1) := by decide +kernel
theorem d_Rb_place_2 : decode b_Rb_place 2 = .ok (.invokestatic 46, 3) := by decide +kernel
theorem d_Rb_place_5 : decode b_Rb_place 5 = .ok (.aload_n 1, 1) := by decide +kernel
theorem d_Rb_place_6 : decode b_Rb_place 6 = .ok (.invokestatic 58, 3) := by decide +kernel
theorem d_Rb_place_9 : decode b_Rb_place 9 = .ok (.aload_n 1, 1) := by decide +kernel
theorem d_Rb_place_10 : decode b_Rb_place 10 = .ok (.iload_n 2, 1) := by decide +kernel
theorem d_Rb_place_11 : decode b_Rb_place 11 = .ok (.iload_n 3, 1) := by decide +kernel
theorem d_Rb_place_12 : decode b_Rb_place 12 = .ok (.invokevirtual 196, 3) := by decide +kernel
theorem d_Rb_place_15 : decode b_Rb_place 15 = .ok (.istore 4, 2) := by decide +kernel
theorem d_Rb_place_17 : decode b_Rb_place 17 = .ok (.aload_n 0, 1) := by decide +kernel
theorem d_Rb_place_18 : decode b_Rb_place 18 = .ok (.getfield 31, 3) := by decide +kernel
theorem d_Rb_place_21 : decode b_Rb_place 21 = .ok (.aload_n 0, 1) := by decide +kernel
theorem d_Rb_place_22 : decode b_Rb_place 22 = .ok (.getfield 19, 3) := by decide +kernel
theorem d_Rb_place_25 : decode b_Rb_place 25 = .ok (.invokevirtual 66, 3) := by decide +kernel
theorem d_Rb_place_28 : decode b_Rb_place 28 = .ok (.pop, 1) := by decide +kernel
theorem d_Rb_place_29 : decode b_Rb_place 29 = .ok (.iload 4, 2) := by decide +kernel
theorem d_Rb_place_31 : decode b_Rb_place 31 = .ok (.ireturn, 1) := by decide +kernel
theorem d_Rb_diode_0 : decode b_Rb_diode 0 = .ok (.aload_n 0, 1) := by decide +kernel
theorem d_Rb_diode_1 : decode b_Rb_diode 1 = .ok (.aload_n 0, 1) := by decide +kernel
theorem d_Rb_diode_2 : decode b_Rb_diode 2 = .ok (.getfield 10, 3) := by decide +kernel
theorem d_Rb_diode_5 : decode b_Rb_diode 5 = .ok (.getfield 91, 3) := by decide +kernel
theorem d_Rb_diode_8 : decode b_Rb_diode 8 = .ok (.iload_n 1, 1) := by decide +kernel
theorem d_Rb_diode_9 : decode b_Rb_diode 9 = .ok (.iload_n 2, 1) := by decide +kernel
theorem d_Rb_diode_10 : decode b_Rb_diode 10 = .ok (.invokevirtual 87, 3) := by decide +kernel
theorem d_Rb_diode_13 : decode b_Rb_diode 13 = .ok (.ireturn, 1) := by decide +kernel
theorem d_Rb_lamp_0 : decode b_Rb_lamp 0 = .ok (.aload_n 0, 1) := by decide +kernel
theorem d_Rb_lamp_1 : decode b_Rb_lamp 1 = .ok (.aload_n 0, 1) := by decide +kernel
theorem d_Rb_lamp_2 : decode b_Rb_lamp 2 = .ok (.getfield 10, 3) := by decide +kernel
theorem d_Rb_lamp_5 : decode b_Rb_lamp 5 = .ok (.getfield 94, 3) := by decide +kernel
theorem d_Rb_lamp_8 : decode b_Rb_lamp 8 = .ok (.iload_n 1, 1) := by decide +kernel
theorem d_Rb_lamp_9 : decode b_Rb_lamp 9 = .ok (.iload_n 2, 1) := by decide +kernel
theorem d_Rb_lamp_10 : decode b_Rb_lamp 10 = .ok (.invokevirtual 87, 3) := by decide +kernel
theorem d_Rb_lamp_13 : decode b_Rb_lamp 13 = .ok (.ireturn, 1) := by decide +kernel
theorem d_Rb_turn_0 : decode b_Rb_turn 0 = .ok (.aload_n 0, 1) := by decide +kernel
theorem d_Rb_turn_1 : decode b_Rb_turn 1 = .ok (.getfield 10, 3) := by decide +kernel
theorem d_Rb_turn_4 : decode b_Rb_turn 4 = .ok (.getfield 84, 3) := by decide +kernel
theorem d_Rb_turn_7 : decode b_Rb_turn 7 = .ok (.iload_n 1, 1) := by decide +kernel
theorem d_Rb_turn_8 : decode b_Rb_turn 8 = .ok (.invokestatic 74, 3) := by decide +kernel
theorem d_Rb_turn_11 : decode b_Rb_turn 11 = .ok (.aload_n 0, 1) := by decide +kernel
theorem d_Rb_turn_12 : decode b_Rb_turn 12 = .ok (.getfield 19, 3) := by decide +kernel
theorem d_Rb_turn_15 : decode b_Rb_turn 15 = .ok (.iload_n 1, 1) := by decide +kernel
theorem d_Rb_turn_16 : decode b_Rb_turn 16 = .ok (.iload_n 2, 1) := by decide +kernel
theorem d_Rb_turn_17 : decode b_Rb_turn 17 = .ok (.invokevirtual 97, 3) := by decide +kernel
theorem d_Rb_turn_20 : decode b_Rb_turn 20 = .ok (.istore_n 3, 1) := by decide +kernel
theorem d_Rb_turn_21 : decode b_Rb_turn 21 = .ok (.aload_n 0, 1) := by decide +kernel
theorem d_Rb_turn_22 : decode b_Rb_turn 22 = .ok (.getfield 31, 3) := by decide +kernel
theorem d_Rb_turn_25 : decode b_Rb_turn 25 = .ok (.aload_n 0, 1) := by decide +kernel
theorem d_Rb_turn_26 : decode b_Rb_turn 26 = .ok (.getfield 19, 3) := by decide +kernel
theorem d_Rb_turn_29 : decode b_Rb_turn 29 = .ok (.invokevirtual 66, 3) := by decide +kernel
theorem d_Rb_turn_32 : decode b_Rb_turn 32 = .ok (.pop, 1) := by decide +kernel
theorem d_Rb_turn_33 : decode b_Rb_turn 33 = .ok (.iload_n 3, 1) := by decide +kernel
theorem d_Rb_turn_34 : decode b_Rb_turn 34 = .ok (.ireturn, 1) := by decide +kernel
theorem d_Rb_dial_0 : decode b_Rb_dial 0 = .ok (.iload_n 2, 1) := by decide +kernel
theorem d_Rb_dial_1 : decode b_Rb_dial 1 = .ok (.iconst 0, 1) := by decide +kernel
theorem d_Rb_dial_2 : decode b_Rb_dial 2 = .ok (.aload_n 0, 1) := by decide +kernel
theorem d_Rb_dial_3 : decode b_Rb_dial 3 = .ok (.getfield 10, 3) := by decide +kernel
theorem d_Rb_dial_6 : decode b_Rb_dial 6 = .ok (.getfield 84, 3) := by decide +kernel
theorem d_Rb_dial_9 : decode b_Rb_dial 9 = .ok (.getfield 101, 3) := by decide +kernel
theorem d_Rb_dial_12 : decode b_Rb_dial 12 = .ok (.invokestatic 70, 3) := by decide +kernel
theorem d_Rb_dial_15 : decode b_Rb_dial 15 = .ok (.iload_n 1, 1) := by decide +kernel
theorem d_Rb_dial_16 : decode b_Rb_dial 16 = .ok (.iconst 0, 1) := by decide +kernel
theorem d_Rb_dial_17 : decode b_Rb_dial 17 = .ok (.aload_n 0, 1) := by decide +kernel
theorem d_Rb_dial_18 : decode b_Rb_dial 18 = .ok (.getfield 10, 3) := by decide +kernel
theorem d_Rb_dial_21 : decode b_Rb_dial 21 = .ok (.getfield 84, 3) := by decide +kernel
theorem d_Rb_dial_24 : decode b_Rb_dial 24 = .ok (.getfield 101, 3) := by decide +kernel
theorem d_Rb_dial_27 : decode b_Rb_dial 27 = .ok (.iload_n 2, 1) := by decide +kernel
theorem d_Rb_dial_28 : decode b_Rb_dial 28 = .ok (.isub, 1) := by decide +kernel
theorem d_Rb_dial_29 : decode b_Rb_dial 29 = .ok (.invokestatic 70, 3) := by decide +kernel
theorem d_Rb_dial_32 : decode b_Rb_dial 32 = .ok (.iconst 0, 1) := by decide +kernel
theorem d_Rb_dial_33 : decode b_Rb_dial 33 = .ok (.istore 4, 2) := by decide +kernel
theorem d_Rb_dial_35 : decode b_Rb_dial 35 = .ok (.iload 4, 2) := by decide +kernel
theorem d_Rb_dial_37 : decode b_Rb_dial 37 = .ok (.iload_n 2, 1) := by decide +kernel
theorem d_Rb_dial_38 : decode b_Rb_dial 38 = .ok (.if_icmp .ge 27, 3) := by decide +kernel
theorem d_Rb_dial_41 : decode b_Rb_dial 41 = .ok (.aload_n 0, 1) := by decide +kernel
theorem d_Rb_dial_42 : decode b_Rb_dial 42 = .ok (.getfield 19, 3) := by decide +kernel
theorem d_Rb_dial_45 : decode b_Rb_dial 45 = .ok (.iload_n 1, 1) := by decide +kernel
theorem d_Rb_dial_46 : decode b_Rb_dial 46 = .ok (.iload 4, 2) := by decide +kernel
theorem d_Rb_dial_48 : decode b_Rb_dial 48 = .ok (.iadd, 1) := by decide +kernel
theorem d_Rb_dial_49 : decode b_Rb_dial 49 = .ok (.iload_n 3, 1) := by decide +kernel
theorem d_Rb_dial_50 : decode b_Rb_dial 50 = .ok (.iload 4, 2) := by decide +kernel
theorem d_Rb_dial_52 : decode b_Rb_dial 52 = .ok (.invokestatic 106, 3) := by decide +kernel
theorem d_Rb_dial_55 : decode b_Rb_dial 55 = .ok (.invokevirtual 97, 3) := by decide +kernel
theorem d_Rb_dial_58 : decode b_Rb_dial 58 = .ok (.pop, 1) := by decide +kernel
theorem d_Rb_dial_59 : decode b_Rb_dial 59 = .ok (.iinc 4 1, 3) := by decide +kernel
theorem d_Rb_dial_62 : decode b_Rb_dial 62 = .ok (.goto (-27), 3) := by decide +kernel
theorem d_Rb_dial_65 : decode b_Rb_dial 65 = .ok (.aload_n 0, 1) := by decide +kernel
theorem d_Rb_dial_66 : decode b_Rb_dial 66 = .ok (.getfield 31, 3) := by decide +kernel
theorem d_Rb_dial_69 : decode b_Rb_dial 69 = .ok (.aload_n 0, 1) := by decide +kernel
theorem d_Rb_dial_70 : decode b_Rb_dial 70 = .ok (.getfield 19, 3) := by decide +kernel
theorem d_Rb_dial_73 : decode b_Rb_dial 73 = .ok (.invokevirtual 66, 3) := by decide +kernel
theorem d_Rb_dial_76 : decode b_Rb_dial 76 = .ok (.pop, 1) := by decide +kernel
theorem d_Rb_dial_77 : decode b_Rb_dial 77 = .ok (.return_, 1) := by decide +kernel
theorem d_Rb_tick_0 : decode b_Rb_tick 0 = .ok (.iload_n 1, 1) := by decide +kernel
theorem d_Rb_tick_1 : decode b_Rb_tick 1 = .ok (.iconst 1, 1) := by decide +kernel
theorem d_Rb_tick_2 : decode b_Rb_tick 2 = .ok (.sipush 500, 3) := by decide +kernel
theorem d_Rb_tick_5 : decode b_Rb_tick 5 = .ok (.invokestatic 70, 3) := by decide +kernel
theorem d_Rb_tick_8 : decode b_Rb_tick 8 = .ok (.iconst 0, 1) := by decide +kernel
theorem d_Rb_tick_9 : decode b_Rb_tick 9 = .ok (.istore_n 2, 1) := by decide +kernel
theorem d_Rb_tick_10 : decode b_Rb_tick 10 = .ok (.iconst 0, 1) := by decide +kernel
theorem d_Rb_tick_11 : decode b_Rb_tick 11 = .ok (.istore_n 3, 1) := by decide +kernel
theorem d_Rb_tick_12 : decode b_Rb_tick 12 = .ok (.iload_n 3, 1) := by decide +kernel
theorem d_Rb_tick_13 : decode b_Rb_tick 13 = .ok (.iload_n 1, 1) := by decide +kernel
theorem d_Rb_tick_14 : decode b_Rb_tick 14 = .ok (.if_icmp .ge 27, 3) := by decide +kernel
theorem d_Rb_tick_17 : decode b_Rb_tick 17 = .ok (.aload_n 0, 1) := by decide +kernel
theorem d_Rb_tick_18 : decode b_Rb_tick 18 = .ok (.getfield 31, 3) := by decide +kernel
theorem d_Rb_tick_21 : decode b_Rb_tick 21 = .ok (.aload_n 0, 1) := by decide +kernel
theorem d_Rb_tick_22 : decode b_Rb_tick 22 = .ok (.getfield 19, 3) := by decide +kernel
theorem d_Rb_tick_25 : decode b_Rb_tick 25 = .ok (.iconst 0, 1) := by decide +kernel
theorem d_Rb_tick_26 : decode b_Rb_tick 26 = .ok (.invokevirtual 110, 3) := by decide +kernel
theorem d_Rb_tick_29 : decode b_Rb_tick 29 = .ok (.ifCond .eq 6, 3) := by decide +kernel
theorem d_Rb_tick_32 : decode b_Rb_tick 32 = .ok (.iinc 2 1, 3) := by decide +kernel
theorem d_Rb_tick_35 : decode b_Rb_tick 35 = .ok (.iinc 3 1, 3) := by decide +kernel
theorem d_Rb_tick_38 : decode b_Rb_tick 38 = .ok (.goto (-26), 3) := by decide +kernel
theorem d_Rb_tick_41 : decode b_Rb_tick 41 = .ok (.aload_n 0, 1) := by decide +kernel
theorem d_Rb_tick_42 : decode b_Rb_tick 42 = .ok (.dup, 1) := by decide +kernel
theorem d_Rb_tick_43 : decode b_Rb_tick 43 = .ok (.getfield 42, 3) := by decide +kernel
theorem d_Rb_tick_46 : decode b_Rb_tick 46 = .ok (.iload_n 1, 1) := by decide +kernel
theorem d_Rb_tick_47 : decode b_Rb_tick 47 = .ok (.iadd, 1) := by decide +kernel
theorem d_Rb_tick_48 : decode b_Rb_tick 48 = .ok (.putfield 42, 3) := by decide +kernel
theorem d_Rb_tick_51 : decode b_Rb_tick 51 = .ok (.iload_n 2, 1) := by decide +kernel
theorem d_Rb_tick_52 : decode b_Rb_tick 52 = .ok (.ireturn, 1) := by decide +kernel
theorem d_Rb_settle_0 : decode b_Rb_settle 0 = .ok (.iload_n 1, 1) := by decide +kernel
theorem d_Rb_settle_1 : decode b_Rb_settle 1 = .ok (.iconst 0, 1) := by decide +kernel
theorem d_Rb_settle_2 : decode b_Rb_settle 2 = .ok (.sipush 500, 3) := by decide +kernel
theorem d_Rb_settle_5 : decode b_Rb_settle 5 = .ok (.invokestatic 70, 3) := by decide +kernel
theorem d_Rb_settle_8 : decode b_Rb_settle 8 = .ok (.aload_n 0, 1) := by decide +kernel
theorem d_Rb_settle_9 : decode b_Rb_settle 9 = .ok (.getfield 23, 3) := by decide +kernel
theorem d_Rb_settle_12 : decode b_Rb_settle 12 = .ok (.aload_n 0, 1) := by decide +kernel
theorem d_Rb_settle_13 : decode b_Rb_settle 13 = .ok (.getfield 19, 3) := by decide +kernel
theorem d_Rb_settle_16 : decode b_Rb_settle 16 = .ok (.invokevirtual 114, 3) := by decide +kernel
theorem d_Rb_settle_19 : decode b_Rb_settle 19 = .ok (.aload_n 0, 1) := by decide +kernel
theorem d_Rb_settle_20 : decode b_Rb_settle 20 = .ok (.getfield 31, 3) := by decide +kernel
theorem d_Rb_settle_23 : decode b_Rb_settle 23 = .ok (.aload_n 0, 1) := by decide +kernel
theorem d_Rb_settle_24 : decode b_Rb_settle 24 = .ok (.getfield 23, 3) := by decide +kernel
theorem d_Rb_settle_27 : decode b_Rb_settle 27 = .ok (.iconst 0, 1) := by decide +kernel
theorem d_Rb_settle_28 : decode b_Rb_settle 28 = .ok (.iload_n 1, 1) := by decide +kernel
theorem d_Rb_settle_29 : decode b_Rb_settle 29 = .ok (.invokevirtual 118, 3) := by decide +kernel
theorem d_Rb_settle_32 : decode b_Rb_settle 32 = .ok (.istore_n 2, 1) := by decide +kernel
theorem d_Rb_settle_33 : decode b_Rb_settle 33 = .ok (.iload_n 2, 1) := by decide +kernel
theorem d_Rb_settle_34 : decode b_Rb_settle 34 = .ok (.iconst (-1), 1) := by decide +kernel
theorem d_Rb_settle_35 : decode b_Rb_settle 35 = .ok (.if_icmp .ne 13, 3) := by decide +kernel
theorem d_Rb_settle_38 : decode b_Rb_settle 38 = .ok (.new 122, 3) := by decide +kernel
theorem d_Rb_settle_41 : decode b_Rb_settle 41 = .ok (.dup, 1) := by decide +kernel
theorem d_Rb_settle_42 : decode b_Rb_settle 42 = .ok (.ldc 124, 2) := by decide +kernel
theorem d_Rb_settle_44 : decode b_Rb_settle 44 = .ok (.invokespecial 126, 3) := by decide +kernel
theorem d_Rb_settle_47 : decode b_Rb_settle 47 = .ok (.athrow, 1) := by decide +kernel
theorem d_Rb_settle_48 : decode b_Rb_settle 48 = .ok (.aload_n 0, 1) := by decide +kernel
theorem d_Rb_settle_49 : decode b_Rb_settle 49 = .ok (.getfield 19, 3) := by decide +kernel
theorem d_Rb_settle_52 : decode b_Rb_settle 52 = .ok (.aload_n 0, 1) := by decide +kernel
theorem d_Rb_settle_53 : decode b_Rb_settle 53 = .ok (.getfield 23, 3) := by decide +kernel
theorem d_Rb_settle_56 : decode b_Rb_settle 56 = .ok (.invokevirtual 114, 3) := by decide +kernel
theorem d_Rb_settle_59 : decode b_Rb_settle 59 = .ok (.aload_n 0, 1) := by decide +kernel
theorem d_Rb_settle_60 : decode b_Rb_settle 60 = .ok (.dup, 1) := by decide +kernel
theorem d_Rb_settle_61 : decode b_Rb_settle 61 = .ok (.getfield 42, 3) := by decide +kernel
theorem d_Rb_settle_64 : decode b_Rb_settle 64 = .ok (.iload_n 2, 1) := by decide +kernel
theorem d_Rb_settle_65 : decode b_Rb_settle 65 = .ok (.iadd, 1) := by decide +kernel
theorem d_Rb_settle_66 : decode b_Rb_settle 66 = .ok (.putfield 42, 3) := by decide +kernel
theorem d_Rb_settle_69 : decode b_Rb_settle 69 = .ok (.iload_n 2, 1) := by decide +kernel
theorem d_Rb_settle_70 : decode b_Rb_settle 70 = .ok (.ireturn, 1) := by decide +kernel
theorem d_Rb_circle_0 : decode b_Rb_circle 0 = .ok (.iload_n 1, 1) := by decide +kernel
theorem d_Rb_circle_1 : decode b_Rb_circle 1 = .ok (.iconst 1, 1) := by decide +kernel
theorem d_Rb_circle_2 : decode b_Rb_circle 2 = .ok (.sipush 500, 3) := by decide +kernel
theorem d_Rb_circle_5 : decode b_Rb_circle 5 = .ok (.invokestatic 70, 3) := by decide +kernel
theorem d_Rb_circle_8 : decode b_Rb_circle 8 = .ok (.aload_n 0, 1) := by decide +kernel
theorem d_Rb_circle_9 : decode b_Rb_circle 9 = .ok (.getfield 23, 3) := by decide +kernel
theorem d_Rb_circle_12 : decode b_Rb_circle 12 = .ok (.aload_n 0, 1) := by decide +kernel
theorem d_Rb_circle_13 : decode b_Rb_circle 13 = .ok (.getfield 19, 3) := by decide +kernel
theorem d_Rb_circle_16 : decode b_Rb_circle 16 = .ok (.invokevirtual 114, 3) := by decide +kernel
theorem d_Rb_circle_19 : decode b_Rb_circle 19 = .ok (.aload_n 0, 1) := by decide +kernel
theorem d_Rb_circle_20 : decode b_Rb_circle 20 = .ok (.getfield 38, 3) := by decide +kernel
theorem d_Rb_circle_23 : decode b_Rb_circle 23 = .ok (.aload_n 0, 1) := by decide +kernel
theorem d_Rb_circle_24 : decode b_Rb_circle 24 = .ok (.getfield 23, 3) := by decide +kernel
theorem d_Rb_circle_27 : decode b_Rb_circle 27 = .ok (.invokevirtual 129, 3) := by decide +kernel
theorem d_Rb_circle_30 : decode b_Rb_circle 30 = .ok (.iconst 1, 1) := by decide +kernel
theorem d_Rb_circle_31 : decode b_Rb_circle 31 = .ok (.istore_n 2, 1) := by decide +kernel
theorem d_Rb_circle_32 : decode b_Rb_circle 32 = .ok (.iload_n 2, 1) := by decide +kernel
theorem d_Rb_circle_33 : decode b_Rb_circle 33 = .ok (.iload_n 1, 1) := by decide +kernel
theorem d_Rb_circle_34 : decode b_Rb_circle 34 = .ok (.if_icmp .gt 49, 3) := by decide +kernel
theorem d_Rb_circle_37 : decode b_Rb_circle 37 = .ok (.aload_n 0, 1) := by decide +kernel
theorem d_Rb_circle_38 : decode b_Rb_circle 38 = .ok (.getfield 31, 3) := by decide +kernel
theorem d_Rb_circle_41 : decode b_Rb_circle 41 = .ok (.aload_n 0, 1) := by decide +kernel
theorem d_Rb_circle_42 : decode b_Rb_circle 42 = .ok (.getfield 23, 3) := by decide +kernel
theorem d_Rb_circle_45 : decode b_Rb_circle 45 = .ok (.iconst 0, 1) := by decide +kernel
theorem d_Rb_circle_46 : decode b_Rb_circle 46 = .ok (.invokevirtual 110, 3) := by decide +kernel
theorem d_Rb_circle_49 : decode b_Rb_circle 49 = .ok (.pop, 1) := by decide +kernel
theorem d_Rb_circle_50 : decode b_Rb_circle 50 = .ok (.aload_n 0, 1) := by decide +kernel
theorem d_Rb_circle_51 : decode b_Rb_circle 51 = .ok (.getfield 38, 3) := by decide +kernel
theorem d_Rb_circle_54 : decode b_Rb_circle 54 = .ok (.aload_n 0, 1) := by decide +kernel
theorem d_Rb_circle_55 : decode b_Rb_circle 55 = .ok (.getfield 23, 3) := by decide +kernel
theorem d_Rb_circle_58 : decode b_Rb_circle 58 = .ok (.invokevirtual 132, 3) := by decide +kernel
theorem d_Rb_circle_61 : decode b_Rb_circle 61 = .ok (.istore_n 3, 1) := by decide +kernel
theorem d_Rb_circle_62 : decode b_Rb_circle 62 = .ok (.iload_n 3, 1) := by decide +kernel
theorem d_Rb_circle_63 : decode b_Rb_circle 63 = .ok (.iconst (-1), 1) := by decide +kernel
theorem d_Rb_circle_64 : decode b_Rb_circle 64 = .ok (.if_icmp .eq 13, 3) := by decide +kernel
theorem d_Rb_circle_67 : decode b_Rb_circle 67 = .ok (.iload_n 3, 1) := by decide +kernel
theorem d_Rb_circle_68 : decode b_Rb_circle 68 = .ok (.sipush 1000, 3) := by decide +kernel
theorem d_Rb_circle_71 : decode b_Rb_circle 71 = .ok (.iload_n 2, 1) := by decide +kernel
theorem d_Rb_circle_72 : decode b_Rb_circle 72 = .ok (.iload_n 3, 1) := by decide +kernel
theorem d_Rb_circle_73 : decode b_Rb_circle 73 = .ok (.isub, 1) := by decide +kernel
theorem d_Rb_circle_74 : decode b_Rb_circle 74 = .ok (.imul, 1) := by decide +kernel
theorem d_Rb_circle_75 : decode b_Rb_circle 75 = .ok (.iadd, 1) := by decide +kernel
theorem d_Rb_circle_76 : decode b_Rb_circle 76 = .ok (.ireturn, 1) := by decide +kernel
theorem d_Rb_circle_77 : decode b_Rb_circle 77 = .ok (.iinc 2 1, 3) := by decide +kernel
theorem d_Rb_circle_80 : decode b_Rb_circle 80 = .ok (.goto (-48), 3) := by decide +kernel
theorem d_Rb_circle_83 : decode b_Rb_circle 83 = .ok (.new 122, 3) := by decide +kernel
theorem d_Rb_circle_86 : decode b_Rb_circle 86 = .ok (.dup, 1) := by decide +kernel
theorem d_Rb_circle_87 : decode b_Rb_circle 87 = .ok (.ldc 136, 2) := by decide +kernel
theorem d_Rb_circle_89 : decode b_Rb_circle 89 = .ok (.invokespecial 126, 3) := by decide +kernel
theorem d_Rb_circle_92 : decode b_Rb_circle 92 = .ok (.athrow, 1) := by decide +kernel
theorem d_Rb_race_0 : decode b_Rb_race 0 = .ok (.aload_n 0, 1) := by decide +kernel
theorem d_Rb_race_1 : decode b_Rb_race 1 = .ok (.getfield 10, 3) := by decide +kernel
theorem d_Rb_race_4 : decode b_Rb_race 4 = .ok (.getfield 84, 3) := by decide +kernel
theorem d_Rb_race_7 : decode b_Rb_race 7 = .ok (.iload_n 1, 1) := by decide +kernel
theorem d_Rb_race_8 : decode b_Rb_race 8 = .ok (.invokestatic 74, 3) := by decide +kernel
theorem d_Rb_race_11 : decode b_Rb_race 11 = .ok (.iload_n 3, 1) := by decide +kernel
theorem d_Rb_race_12 : decode b_Rb_race 12 = .ok (.iconst 0, 1) := by decide +kernel
theorem d_Rb_race_13 : decode b_Rb_race 13 = .ok (.bipush 6, 2) := by decide +kernel
theorem d_Rb_race_15 : decode b_Rb_race 15 = .ok (.aload_n 0, 1) := by decide +kernel
theorem d_Rb_race_16 : decode b_Rb_race 16 = .ok (.getfield 10, 3) := by decide +kernel
theorem d_Rb_race_19 : decode b_Rb_race 19 = .ok (.getfield 54, 3) := by decide +kernel
theorem d_Rb_race_22 : decode b_Rb_race 22 = .ok (.getfield 101, 3) := by decide +kernel
theorem d_Rb_race_25 : decode b_Rb_race 25 = .ok (.invokestatic 138, 3) := by decide +kernel
theorem d_Rb_race_28 : decode b_Rb_race 28 = .ok (.invokestatic 70, 3) := by decide +kernel
theorem d_Rb_race_31 : decode b_Rb_race 31 = .ok (.iload 4, 2) := by decide +kernel
theorem d_Rb_race_33 : decode b_Rb_race 33 = .ok (.iconst 1, 1) := by decide +kernel
theorem d_Rb_race_34 : decode b_Rb_race 34 = .ok (.bipush 100, 2) := by decide +kernel
theorem d_Rb_race_36 : decode b_Rb_race 36 = .ok (.invokestatic 70, 3) := by decide +kernel
theorem d_Rb_race_39 : decode b_Rb_race 39 = .ok (.aload_n 0, 1) := by decide +kernel
theorem d_Rb_race_40 : decode b_Rb_race 40 = .ok (.iload_n 1, 1) := by decide +kernel
theorem d_Rb_race_41 : decode b_Rb_race 41 = .ok (.iload_n 2, 1) := by decide +kernel
theorem d_Rb_race_42 : decode b_Rb_race 42 = .ok (.iconst 0, 1) := by decide +kernel
theorem d_Rb_race_43 : decode b_Rb_race 43 = .ok (.iload 4, 2) := by decide +kernel
theorem d_Rb_race_45 : decode b_Rb_race 45 = .ok (.invokevirtual 144, 3) := by decide +kernel
theorem d_Rb_race_48 : decode b_Rb_race 48 = .ok (.istore 5, 2) := by decide +kernel
theorem d_Rb_race_50 : decode b_Rb_race 50 = .ok (.iconst 1, 1) := by decide +kernel
theorem d_Rb_race_51 : decode b_Rb_race 51 = .ok (.istore 6, 2) := by decide +kernel
theorem d_Rb_race_53 : decode b_Rb_race 53 = .ok (.iload 6, 2) := by decide +kernel
theorem d_Rb_race_55 : decode b_Rb_race 55 = .ok (.iconst 1, 1) := by decide +kernel
theorem d_Rb_race_56 : decode b_Rb_race 56 = .ok (.iload_n 3, 1) := by decide +kernel
theorem d_Rb_race_57 : decode b_Rb_race 57 = .ok (.ishl, 1) := by decide +kernel
theorem d_Rb_race_58 : decode b_Rb_race 58 = .ok (.if_icmp .ge 27, 3) := by decide +kernel
theorem d_Rb_race_61 : decode b_Rb_race 61 = .ok (.aload_n 0, 1) := by decide +kernel
theorem d_Rb_race_62 : decode b_Rb_race 62 = .ok (.iload_n 1, 1) := by decide +kernel
theorem d_Rb_race_63 : decode b_Rb_race 63 = .ok (.iload_n 2, 1) := by decide +kernel
theorem d_Rb_race_64 : decode b_Rb_race 64 = .ok (.iload 6, 2) := by decide +kernel
theorem d_Rb_race_66 : decode b_Rb_race 66 = .ok (.iload 4, 2) := by decide +kernel
theorem d_Rb_race_68 : decode b_Rb_race 68 = .ok (.invokevirtual 144, 3) := by decide +kernel
theorem d_Rb_race_71 : decode b_Rb_race 71 = .ok (.iload 5, 2) := by decide +kernel
theorem d_Rb_race_73 : decode b_Rb_race 73 = .ok (.if_icmp .eq 6, 3) := by decide +kernel
theorem d_Rb_race_76 : decode b_Rb_race 76 = .ok (.iload 6, 2) := by decide +kernel
theorem d_Rb_race_78 : decode b_Rb_race 78 = .ok (.ireturn, 1) := by decide +kernel
theorem d_Rb_race_79 : decode b_Rb_race 79 = .ok (.iinc 6 1, 3) := by decide +kernel
theorem d_Rb_race_82 : decode b_Rb_race 82 = .ok (.goto (-29), 3) := by decide +kernel
theorem d_Rb_race_85 : decode b_Rb_race 85 = .ok (.iconst (-1), 1) := by decide +kernel
theorem d_Rb_race_86 : decode b_Rb_race 86 = .ok (.ireturn, 1) := by decide +kernel
theorem d_Rb_outcome_0 : decode b_Rb_outcome 0 = .ok (.aload_n 0, 1) := by decide +kernel
theorem d_Rb_outcome_1 : decode b_Rb_outcome 1 = .ok (.getfield 23, 3) := by decide +kernel
theorem d_Rb_outcome_4 : decode b_Rb_outcome 4 = .ok (.aload_n 0, 1) := by decide +kernel
theorem d_Rb_outcome_5 : decode b_Rb_outcome 5 = .ok (.getfield 19, 3) := by decide +kernel
theorem d_Rb_outcome_8 : decode b_Rb_outcome 8 = .ok (.invokevirtual 114, 3) := by decide +kernel
theorem d_Rb_outcome_11 : decode b_Rb_outcome 11 = .ok (.aload_n 0, 1) := by decide +kernel
theorem d_Rb_outcome_12 : decode b_Rb_outcome 12 = .ok (.getfield 23, 3) := by decide +kernel
theorem d_Rb_outcome_15 : decode b_Rb_outcome 15 = .ok (.iload_n 1, 1) := by decide +kernel
theorem d_Rb_outcome_16 : decode b_Rb_outcome 16 = .ok (.iload_n 2, 1) := by decide +kernel
theorem d_Rb_outcome_17 : decode b_Rb_outcome 17 = .ok (.invokevirtual 97, 3) := by decide +kernel
theorem d_Rb_outcome_20 : decode b_Rb_outcome 20 = .ok (.pop, 1) := by decide +kernel
theorem d_Rb_outcome_21 : decode b_Rb_outcome 21 = .ok (.aload_n 0, 1) := by decide +kernel
theorem d_Rb_outcome_22 : decode b_Rb_outcome 22 = .ok (.getfield 31, 3) := by decide +kernel
theorem d_Rb_outcome_25 : decode b_Rb_outcome 25 = .ok (.aload_n 0, 1) := by decide +kernel
theorem d_Rb_outcome_26 : decode b_Rb_outcome 26 = .ok (.getfield 23, 3) := by decide +kernel
theorem d_Rb_outcome_29 : decode b_Rb_outcome 29 = .ok (.invokevirtual 66, 3) := by decide +kernel
theorem d_Rb_outcome_32 : decode b_Rb_outcome 32 = .ok (.pop, 1) := by decide +kernel
theorem d_Rb_outcome_33 : decode b_Rb_outcome 33 = .ok (.aload_n 0, 1) := by decide +kernel
theorem d_Rb_outcome_34 : decode b_Rb_outcome 34 = .ok (.getfield 31, 3) := by decide +kernel
theorem d_Rb_outcome_37 : decode b_Rb_outcome 37 = .ok (.aload_n 0, 1) := by decide +kernel
theorem d_Rb_outcome_38 : decode b_Rb_outcome 38 = .ok (.getfield 23, 3) := by decide +kernel
theorem d_Rb_outcome_41 : decode b_Rb_outcome 41 = .ok (.iload_n 3, 1) := by decide +kernel
theorem d_Rb_outcome_42 : decode b_Rb_outcome 42 = .ok (.iload 4, 2) := by decide +kernel
theorem d_Rb_outcome_44 : decode b_Rb_outcome 44 = .ok (.invokevirtual 118, 3) := by decide +kernel
theorem d_Rb_outcome_47 : decode b_Rb_outcome 47 = .ok (.iconst (-1), 1) := by decide +kernel
theorem d_Rb_outcome_48 : decode b_Rb_outcome 48 = .ok (.if_icmp .ne 5, 3) := by decide +kernel
theorem d_Rb_outcome_51 : decode b_Rb_outcome 51 = .ok (.iconst (-1), 1) := by decide +kernel
theorem d_Rb_outcome_52 : decode b_Rb_outcome 52 = .ok (.ireturn, 1) := by decide +kernel
theorem d_Rb_outcome_53 : decode b_Rb_outcome 53 = .ok (.aload_n 0, 1) := by decide +kernel
theorem d_Rb_outcome_54 : decode b_Rb_outcome 54 = .ok (.getfield 23, 3) := by decide +kernel
theorem d_Rb_outcome_57 : decode b_Rb_outcome 57 = .ok (.getfield 167, 3) := by decide +kernel
theorem d_Rb_outcome_60 : decode b_Rb_outcome 60 = .ok (.aload_n 0, 1) := by decide +kernel
theorem d_Rb_outcome_61 : decode b_Rb_outcome 61 = .ok (.getfield 23, 3) := by decide +kernel
theorem d_Rb_outcome_64 : decode b_Rb_outcome 64 = .ok (.getfield 189, 3) := by decide +kernel
theorem d_Rb_outcome_67 : decode b_Rb_outcome 67 = .ok (.ifCond .eq 8, 3) := by decide +kernel
theorem d_Rb_outcome_70 : decode b_Rb_outcome 70 = .ok (.ldc 199, 2) := by decide +kernel
theorem d_Rb_outcome_72 : decode b_Rb_outcome 72 = .ok (.goto 4, 3) := by decide +kernel
theorem d_Rb_outcome_75 : decode b_Rb_outcome 75 = .ok (.iconst 0, 1) := by decide +kernel
theorem d_Rb_outcome_76 : decode b_Rb_outcome 76 = .ok (.ior, 1) := by decide +kernel
theorem d_Rb_outcome_77 : decode b_Rb_outcome 77 = .ok (.ireturn, 1) := by decide +kernel
theorem d_Rb_state_0 : decode b_Rb_state 0 = .ok (.aload_n 0, 1) := by decide +kernel
theorem d_Rb_state_1 : decode b_Rb_state 1 = .ok (.getfield 10, 3) := by decide +kernel
theorem d_Rb_state_4 : decode b_Rb_state 4 = .ok (.getfield 54, 3) := by decide +kernel
theorem d_Rb_state_7 : decode b_Rb_state 7 = .ok (.iload_n 1, 1) := by decide +kernel
theorem d_Rb_state_8 : decode b_Rb_state 8 = .ok (.invokestatic 74, 3) := by decide +kernel
theorem d_Rb_state_11 : decode b_Rb_state 11 = .ok (.iload_n 2, 1) := by decide +kernel
theorem d_Rb_state_12 : decode b_Rb_state 12 = .ok (.tableswitch 93 0 3 #[32, 42, 52, 83], 32) := by decide +kernel
theorem d_Rb_state_44 : decode b_Rb_state 44 = .ok (.aload_n 0, 1) := by decide +kernel
theorem d_Rb_state_45 : decode b_Rb_state 45 = .ok (.getfield 19, 3) := by decide +kernel
theorem d_Rb_state_48 : decode b_Rb_state 48 = .ok (.getfield 148, 3) := by decide +kernel
theorem d_Rb_state_51 : decode b_Rb_state 51 = .ok (.iload_n 1, 1) := by decide +kernel
theorem d_Rb_state_52 : decode b_Rb_state 52 = .ok (.iaload, 1) := by decide +kernel
theorem d_Rb_state_53 : decode b_Rb_state 53 = .ok (.ireturn, 1) := by decide +kernel
theorem d_Rb_state_54 : decode b_Rb_state 54 = .ok (.aload_n 0, 1) := by decide +kernel
theorem d_Rb_state_55 : decode b_Rb_state 55 = .ok (.getfield 19, 3) := by decide +kernel
theorem d_Rb_state_58 : decode b_Rb_state 58 = .ok (.getfield 152, 3) := by decide +kernel
theorem d_Rb_state_61 : decode b_Rb_state 61 = .ok (.iload_n 1, 1) := by decide +kernel
theorem d_Rb_state_62 : decode b_Rb_state 62 = .ok (.iaload, 1) := by decide +kernel
theorem d_Rb_state_63 : decode b_Rb_state 63 = .ok (.ireturn, 1) := by decide +kernel
theorem d_Rb_state_64 : decode b_Rb_state 64 = .ok (.aload_n 0, 1) := by decide +kernel
theorem d_Rb_state_65 : decode b_Rb_state 65 = .ok (.getfield 31, 3) := by decide +kernel
theorem d_Rb_state_68 : decode b_Rb_state 68 = .ok (.aload_n 0, 1) := by decide +kernel
theorem d_Rb_state_69 : decode b_Rb_state 69 = .ok (.getfield 19, 3) := by decide +kernel
theorem d_Rb_state_72 : decode b_Rb_state 72 = .ok (.aload_n 0, 1) := by decide +kernel
theorem d_Rb_state_73 : decode b_Rb_state 73 = .ok (.getfield 10, 3) := by decide +kernel
theorem d_Rb_state_76 : decode b_Rb_state 76 = .ok (.getfield 54, 3) := by decide +kernel
theorem d_Rb_state_79 : decode b_Rb_state 79 = .ok (.invokevirtual 155, 3) := by decide +kernel
theorem d_Rb_state_82 : decode b_Rb_state 82 = .ok (.iload_n 1, 1) := by decide +kernel
theorem d_Rb_state_83 : decode b_Rb_state 83 = .ok (.invokestatic 106, 3) := by decide +kernel
theorem d_Rb_state_86 : decode b_Rb_state 86 = .ok (.ifCond .eq 7, 3) := by decide +kernel
theorem d_Rb_state_89 : decode b_Rb_state 89 = .ok (.iconst 1, 1) := by decide +kernel
theorem d_Rb_state_90 : decode b_Rb_state 90 = .ok (.goto 4, 3) := by decide +kernel
theorem d_Rb_state_93 : decode b_Rb_state 93 = .ok (.iconst 0, 1) := by decide +kernel
theorem d_Rb_state_94 : decode b_Rb_state 94 = .ok (.ireturn, 1) := by decide +kernel
theorem d_Rb_state_95 : decode b_Rb_state 95 = .ok (.aload_n 0, 1) := by decide +kernel
theorem d_Rb_state_96 : decode b_Rb_state 96 = .ok (.getfield 19, 3) := by decide +kernel
theorem d_Rb_state_99 : decode b_Rb_state 99 = .ok (.getfield 159, 3) := by decide +kernel
theorem d_Rb_state_102 : decode b_Rb_state 102 = .ok (.iload_n 1, 1) := by decide +kernel
theorem d_Rb_state_103 : decode b_Rb_state 103 = .ok (.iaload, 1) := by decide +kernel
theorem d_Rb_state_104 : decode b_Rb_state 104 = .ok (.ireturn, 1) := by decide +kernel
theorem d_Rb_state_105 : decode b_Rb_state 105 = .ok (.new 162, 3) := by decide +kernel
theorem d_Rb_state_108 : decode b_Rb_state 108 = .ok (.dup, 1) := by decide +kernel
theorem d_Rb_state_109 : decode b_Rb_state 109 = .ok (.ldc 164, 2) := by decide +kernel
theorem d_Rb_state_111 : decode b_Rb_state 111 = .ok (.invokespecial 166, 3) := by decide +kernel
theorem d_Rb_state_114 : decode b_Rb_state 114 = .ok (.athrow, 1) := by decide +kernel
theorem d_Rb_node_0 : decode b_Rb_node 0 = .ok (.iload_n 1, 1) := by decide +kernel
theorem d_Rb_node_1 : decode b_Rb_node 1 = .ok (.invokestatic 170, 3) := by decide +kernel
theorem d_Rb_node_4 : decode b_Rb_node 4 = .ok (.aload_n 0, 1) := by decide +kernel
theorem d_Rb_node_5 : decode b_Rb_node 5 = .ok (.getfield 31, 3) := by decide +kernel
theorem d_Rb_node_8 : decode b_Rb_node 8 = .ok (.aload_n 0, 1) := by decide +kernel
theorem d_Rb_node_9 : decode b_Rb_node 9 = .ok (.getfield 19, 3) := by decide +kernel
theorem d_Rb_node_12 : decode b_Rb_node 12 = .ok (.invokevirtual 173, 3) := by decide +kernel
theorem d_Rb_node_15 : decode b_Rb_node 15 = .ok (.astore_n 2, 1) := by decide +kernel
theorem d_Rb_node_16 : decode b_Rb_node 16 = .ok (.aload_n 2, 1) := by decide +kernel
theorem d_Rb_node_17 : decode b_Rb_node 17 = .ok (.iload_n 1, 1) := by decide +kernel
theorem d_Rb_node_18 : decode b_Rb_node 18 = .ok (.invokevirtual 177, 3) := by decide +kernel
theorem d_Rb_node_21 : decode b_Rb_node 21 = .ok (.ifCond .eq 7, 3) := by decide +kernel
theorem d_Rb_node_24 : decode b_Rb_node 24 = .ok (.iconst 1, 1) := by decide +kernel
theorem d_Rb_node_25 : decode b_Rb_node 25 = .ok (.goto 4, 3) := by decide +kernel
theorem d_Rb_node_28 : decode b_Rb_node 28 = .ok (.iconst 0, 1) := by decide +kernel
theorem d_Rb_node_29 : decode b_Rb_node 29 = .ok (.aload_n 2, 1) := by decide +kernel
theorem d_Rb_node_30 : decode b_Rb_node 30 = .ok (.iload_n 1, 1) := by decide +kernel
theorem d_Rb_node_31 : decode b_Rb_node 31 = .ok (.invokevirtual 183, 3) := by decide +kernel
theorem d_Rb_node_34 : decode b_Rb_node 34 = .ok (.ifCond .eq 7, 3) := by decide +kernel
theorem d_Rb_node_37 : decode b_Rb_node 37 = .ok (.iconst 2, 1) := by decide +kernel
theorem d_Rb_node_38 : decode b_Rb_node 38 = .ok (.goto 4, 3) := by decide +kernel
theorem d_Rb_node_41 : decode b_Rb_node 41 = .ok (.iconst 0, 1) := by decide +kernel
theorem d_Rb_node_42 : decode b_Rb_node 42 = .ok (.ior, 1) := by decide +kernel
theorem d_Rb_node_43 : decode b_Rb_node 43 = .ok (.ireturn, 1) := by decide +kernel
theorem d_Rb_leads_0 : decode b_Rb_leads 0 = .ok (.iload_n 1, 1) := by decide +kernel
theorem d_Rb_leads_1 : decode b_Rb_leads 1 = .ok (.invokestatic 170, 3) := by decide +kernel
theorem d_Rb_leads_4 : decode b_Rb_leads 4 = .ok (.iload_n 2, 1) := by decide +kernel
theorem d_Rb_leads_5 : decode b_Rb_leads 5 = .ok (.invokestatic 170, 3) := by decide +kernel
theorem d_Rb_leads_8 : decode b_Rb_leads 8 = .ok (.aload_n 0, 1) := by decide +kernel
theorem d_Rb_leads_9 : decode b_Rb_leads 9 = .ok (.getfield 31, 3) := by decide +kernel
theorem d_Rb_leads_12 : decode b_Rb_leads 12 = .ok (.aload_n 0, 1) := by decide +kernel
theorem d_Rb_leads_13 : decode b_Rb_leads 13 = .ok (.getfield 19, 3) := by decide +kernel
theorem d_Rb_leads_16 : decode b_Rb_leads 16 = .ok (.invokevirtual 173, 3) := by decide +kernel
theorem d_Rb_leads_19 : decode b_Rb_leads 19 = .ok (.iload_n 1, 1) := by decide +kernel
theorem d_Rb_leads_20 : decode b_Rb_leads 20 = .ok (.iload_n 2, 1) := by decide +kernel
theorem d_Rb_leads_21 : decode b_Rb_leads 21 = .ok (.invokevirtual 186, 3) := by decide +kernel
theorem d_Rb_leads_24 : decode b_Rb_leads 24 = .ok (.ireturn, 1) := by decide +kernel
