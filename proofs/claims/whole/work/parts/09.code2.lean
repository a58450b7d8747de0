theorem d_Hi_init_0 : decode b_Hi_init 0 = .ok (.aload_n 0, 1) := by decide +kernel
theorem d_Hi_init_1 : decode b_Hi_init 1 = .ok (.invokespecial 3, 3) := by decide +kernel
theorem d_Hi_init_4 : decode b_Hi_init 4 = .ok (.aload_n 0, 1) := by decide +kernel
theorem d_Hi_init_5 : decode b_Hi_init 5 = .ok (.sipush 501, 3) := by decide +kernel
theorem d_Hi_init_8 : decode b_Hi_init 8 = .ok (.newarray .long, 2) := by decide +kernel
theorem d_Hi_init_10 : decode b_Hi_init 10 = .ok (.putfield 9, 3) := by decide +kernel
theorem d_Hi_init_13 : decode b_Hi_init 13 = .ok (.aload_n 0, 1) := by decide +kernel
theorem d_Hi_init_14 : decode b_Hi_init 14 = .ok (.sipush 501, 3) := by decide +kernel
theorem d_Hi_init_17 : decode b_Hi_init 17 = .ok (.newarray .long, 2) := by decide +kernel
theorem d_Hi_init_19 : decode b_Hi_init 19 = .ok (.putfield 15, 3) := by decide +kernel
theorem d_Hi_init_22 : decode b_Hi_init 22 = .ok (.aload_n 0, 1) := by decide +kernel
theorem d_Hi_init_23 : decode b_Hi_init 23 = .ok (.iconst 0, 1) := by decide +kernel
theorem d_Hi_init_24 : decode b_Hi_init 24 = .ok (.putfield 18, 3) := by decide +kernel
theorem d_Hi_init_27 : decode b_Hi_init 27 = .ok (.return_, 1) := by decide +kernel
theorem d_Hi_begin_0 : decode b_Hi_begin 0 = .ok (.aload_n 0, 1) := by decide +kernel
theorem d_Hi_begin_1 : decode b_Hi_begin 1 = .ok (.iconst 0, 1) := by decide +kernel
theorem d_Hi_begin_2 : decode b_Hi_begin 2 = .ok (.putfield 18, 3) := by decide +kernel
theorem d_Hi_begin_5 : decode b_Hi_begin 5 = .ok (.aload_n 0, 1) := by decide +kernel
theorem d_Hi_begin_6 : decode b_Hi_begin 6 = .ok (.aload_n 1, 1) := by decide +kernel
theorem d_Hi_begin_7 : decode b_Hi_begin 7 = .ok (.invokevirtual 22, 3) := by decide +kernel
theorem d_Hi_begin_10 : decode b_Hi_begin 10 = .ok (.pop, 1) := by decide +kernel
theorem d_Hi_begin_11 : decode b_Hi_begin 11 = .ok (.return_, 1) := by decide +kernel
theorem d_Hi_findOrKeep_0 : decode b_Hi_findOrKeep 0 = .ok (.aload_n 1, 1) := by decide +kernel
theorem d_Hi_findOrKeep_1 : decode b_Hi_findOrKeep 1 = .ok (.iconst 0, 1) := by decide +kernel
theorem d_Hi_findOrKeep_2 : decode b_Hi_findOrKeep 2 = .ok (.invokestatic 26, 3) := by decide +kernel
theorem d_Hi_findOrKeep_5 : decode b_Hi_findOrKeep 5 = .ok (.lstore_n 2, 1) := by decide +kernel
theorem d_Hi_findOrKeep_6 : decode b_Hi_findOrKeep 6 = .ok (.aload_n 1, 1) := by decide +kernel
theorem d_Hi_findOrKeep_7 : decode b_Hi_findOrKeep 7 = .ok (.bipush 8, 2) := by decide +kernel
theorem d_Hi_findOrKeep_9 : decode b_Hi_findOrKeep 9 = .ok (.invokestatic 26, 3) := by decide +kernel
theorem d_Hi_findOrKeep_12 : decode b_Hi_findOrKeep 12 = .ok (.iconst 1, 1) := by decide +kernel
theorem d_Hi_findOrKeep_13 : decode b_Hi_findOrKeep 13 = .ok (.lshl, 1) := by decide +kernel
theorem d_Hi_findOrKeep_14 : decode b_Hi_findOrKeep 14 = .ok (.aload_n 1, 1) := by decide +kernel
theorem d_Hi_findOrKeep_15 : decode b_Hi_findOrKeep 15 = .ok (.getfield 30, 3) := by decide +kernel
theorem d_Hi_findOrKeep_18 : decode b_Hi_findOrKeep 18 = .ok (.ifCond .eq 7, 3) := by decide +kernel
theorem d_Hi_findOrKeep_21 : decode b_Hi_findOrKeep 21 = .ok (.iconst 1, 1) := by decide +kernel
theorem d_Hi_findOrKeep_22 : decode b_Hi_findOrKeep 22 = .ok (.goto 4, 3) := by decide +kernel
theorem d_Hi_findOrKeep_25 : decode b_Hi_findOrKeep 25 = .ok (.iconst 0, 1) := by decide +kernel
theorem d_Hi_findOrKeep_26 : decode b_Hi_findOrKeep 26 = .ok (.i2l, 1) := by decide +kernel
theorem d_Hi_findOrKeep_27 : decode b_Hi_findOrKeep 27 = .ok (.lor, 1) := by decide +kernel
theorem d_Hi_findOrKeep_28 : decode b_Hi_findOrKeep 28 = .ok (.lstore 4, 2) := by decide +kernel
theorem d_Hi_findOrKeep_30 : decode b_Hi_findOrKeep 30 = .ok (.iconst 0, 1) := by decide +kernel
theorem d_Hi_findOrKeep_31 : decode b_Hi_findOrKeep 31 = .ok (.istore 6, 2) := by decide +kernel
theorem d_Hi_findOrKeep_33 : decode b_Hi_findOrKeep 33 = .ok (.iload 6, 2) := by decide +kernel
theorem d_Hi_findOrKeep_35 : decode b_Hi_findOrKeep 35 = .ok (.aload_n 0, 1) := by decide +kernel
theorem d_Hi_findOrKeep_36 : decode b_Hi_findOrKeep 36 = .ok (.getfield 18, 3) := by decide +kernel
theorem d_Hi_findOrKeep_39 : decode b_Hi_findOrKeep 39 = .ok (.if_icmp .ge 37, 3) := by decide +kernel
theorem d_Hi_findOrKeep_42 : decode b_Hi_findOrKeep 42 = .ok (.aload_n 0, 1) := by decide +kernel
theorem d_Hi_findOrKeep_43 : decode b_Hi_findOrKeep 43 = .ok (.getfield 9, 3) := by decide +kernel
theorem d_Hi_findOrKeep_46 : decode b_Hi_findOrKeep 46 = .ok (.iload 6, 2) := by decide +kernel
theorem d_Hi_findOrKeep_48 : decode b_Hi_findOrKeep 48 = .ok (.laload, 1) := by decide +kernel
theorem d_Hi_findOrKeep_49 : decode b_Hi_findOrKeep 49 = .ok (.lload_n 2, 1) := by decide +kernel
theorem d_Hi_findOrKeep_50 : decode b_Hi_findOrKeep 50 = .ok (.lcmp, 1) := by decide +kernel
theorem d_Hi_findOrKeep_51 : decode b_Hi_findOrKeep 51 = .ok (.ifCond .ne 19, 3) := by decide +kernel
theorem d_Hi_findOrKeep_54 : decode b_Hi_findOrKeep 54 = .ok (.aload_n 0, 1) := by decide +kernel
theorem d_Hi_findOrKeep_55 : decode b_Hi_findOrKeep 55 = .ok (.getfield 15, 3) := by decide +kernel
theorem d_Hi_findOrKeep_58 : decode b_Hi_findOrKeep 58 = .ok (.iload 6, 2) := by decide +kernel
theorem d_Hi_findOrKeep_60 : decode b_Hi_findOrKeep 60 = .ok (.laload, 1) := by decide +kernel
theorem d_Hi_findOrKeep_61 : decode b_Hi_findOrKeep 61 = .ok (.lload 4, 2) := by decide +kernel
theorem d_Hi_findOrKeep_63 : decode b_Hi_findOrKeep 63 = .ok (.lcmp, 1) := by decide +kernel
theorem d_Hi_findOrKeep_64 : decode b_Hi_findOrKeep 64 = .ok (.ifCond .ne 6, 3) := by decide +kernel
theorem d_Hi_findOrKeep_67 : decode b_Hi_findOrKeep 67 = .ok (.iload 6, 2) := by decide +kernel
theorem d_Hi_findOrKeep_69 : decode b_Hi_findOrKeep 69 = .ok (.ireturn, 1) := by decide +kernel
theorem d_Hi_findOrKeep_70 : decode b_Hi_findOrKeep 70 = .ok (.iinc 6 1, 3) := by decide +kernel
theorem d_Hi_findOrKeep_73 : decode b_Hi_findOrKeep 73 = .ok (.goto (-40), 3) := by decide +kernel
theorem d_Hi_findOrKeep_76 : decode b_Hi_findOrKeep 76 = .ok (.aload_n 0, 1) := by decide +kernel
theorem d_Hi_findOrKeep_77 : decode b_Hi_findOrKeep 77 = .ok (.getfield 18, 3) := by decide +kernel
theorem d_Hi_findOrKeep_80 : decode b_Hi_findOrKeep 80 = .ok (.aload_n 0, 1) := by decide +kernel
theorem d_Hi_findOrKeep_81 : decode b_Hi_findOrKeep 81 = .ok (.getfield 9, 3) := by decide +kernel
theorem d_Hi_findOrKeep_84 : decode b_Hi_findOrKeep 84 = .ok (.arraylength, 1) := by decide +kernel
theorem d_Hi_findOrKeep_85 : decode b_Hi_findOrKeep 85 = .ok (.if_icmp .ge 34, 3) := by decide +kernel
theorem d_Hi_findOrKeep_88 : decode b_Hi_findOrKeep 88 = .ok (.aload_n 0, 1) := by decide +kernel
theorem d_Hi_findOrKeep_89 : decode b_Hi_findOrKeep 89 = .ok (.getfield 9, 3) := by decide +kernel
theorem d_Hi_findOrKeep_92 : decode b_Hi_findOrKeep 92 = .ok (.aload_n 0, 1) := by decide +kernel
theorem d_Hi_findOrKeep_93 : decode b_Hi_findOrKeep 93 = .ok (.getfield 18, 3) := by decide +kernel
theorem d_Hi_findOrKeep_96 : decode b_Hi_findOrKeep 96 = .ok (.lload_n 2, 1) := by decide +kernel
theorem d_Hi_findOrKeep_97 : decode b_Hi_findOrKeep 97 = .ok (.lastore, 1) := by decide +kernel
theorem d_Hi_findOrKeep_98 : decode b_Hi_findOrKeep 98 = .ok (.aload_n 0, 1) := by decide +kernel
theorem d_Hi_findOrKeep_99 : decode b_Hi_findOrKeep 99 = .ok (.getfield 15, 3) := by decide +kernel
theorem d_Hi_findOrKeep_102 : decode b_Hi_findOrKeep 102 = .ok (.aload_n 0, 1) := by decide +kernel
theorem d_Hi_findOrKeep_103 : decode b_Hi_findOrKeep 103 = .ok (.getfield 18, 3) := by decide +kernel
theorem d_Hi_findOrKeep_106 : decode b_Hi_findOrKeep 106 = .ok (.lload 4, 2) := by decide +kernel
theorem d_Hi_findOrKeep_108 : decode b_Hi_findOrKeep 108 = .ok (.lastore, 1) := by decide +kernel
theorem d_Hi_findOrKeep_109 : decode b_Hi_findOrKeep 109 = .ok (.aload_n 0, 1) := by decide +kernel
theorem d_Hi_findOrKeep_110 : decode b_Hi_findOrKeep 110 = .ok (.dup, 1) := by decide +kernel
theorem d_Hi_findOrKeep_111 : decode b_Hi_findOrKeep 111 = .ok (.getfield 18, 3) := by decide +kernel
theorem d_Hi_findOrKeep_114 : decode b_Hi_findOrKeep 114 = .ok (.iconst 1, 1) := by decide +kernel
theorem d_Hi_findOrKeep_115 : decode b_Hi_findOrKeep 115 = .ok (.iadd, 1) := by decide +kernel
theorem d_Hi_findOrKeep_116 : decode b_Hi_findOrKeep 116 = .ok (.putfield 18, 3) := by decide +kernel
theorem d_Hi_findOrKeep_119 : decode b_Hi_findOrKeep 119 = .ok (.iconst (-1), 1) := by decide +kernel
theorem d_Hi_findOrKeep_120 : decode b_Hi_findOrKeep 120 = .ok (.ireturn, 1) := by decide +kernel
theorem d_Hi_pack_0 : decode b_Hi_pack 0 = .ok (.lconst 0, 1) := by decide +kernel
theorem d_Hi_pack_1 : decode b_Hi_pack 1 = .ok (.lstore_n 2, 1) := by decide +kernel
theorem d_Hi_pack_2 : decode b_Hi_pack 2 = .ok (.iload_n 1, 1) := by decide +kernel
theorem d_Hi_pack_3 : decode b_Hi_pack 3 = .ok (.istore 4, 2) := by decide +kernel
theorem d_Hi_pack_5 : decode b_Hi_pack 5 = .ok (.iload 4, 2) := by decide +kernel
theorem d_Hi_pack_7 : decode b_Hi_pack 7 = .ok (.iload_n 1, 1) := by decide +kernel
theorem d_Hi_pack_8 : decode b_Hi_pack 8 = .ok (.bipush 8, 2) := by decide +kernel
theorem d_Hi_pack_10 : decode b_Hi_pack 10 = .ok (.iadd, 1) := by decide +kernel
theorem d_Hi_pack_11 : decode b_Hi_pack 11 = .ok (.if_icmp .ge 34, 3) := by decide +kernel
theorem d_Hi_pack_14 : decode b_Hi_pack 14 = .ok (.lload_n 2, 1) := by decide +kernel
theorem d_Hi_pack_15 : decode b_Hi_pack 15 = .ok (.bipush 6, 2) := by decide +kernel
theorem d_Hi_pack_17 : decode b_Hi_pack 17 = .ok (.lshl, 1) := by decide +kernel
theorem d_Hi_pack_18 : decode b_Hi_pack 18 = .ok (.aload_n 0, 1) := by decide +kernel
theorem d_Hi_pack_19 : decode b_Hi_pack 19 = .ok (.getfield 36, 3) := by decide +kernel
theorem d_Hi_pack_22 : decode b_Hi_pack 22 = .ok (.iload 4, 2) := by decide +kernel
theorem d_Hi_pack_24 : decode b_Hi_pack 24 = .ok (.iaload, 1) := by decide +kernel
theorem d_Hi_pack_25 : decode b_Hi_pack 25 = .ok (.iconst 4, 1) := by decide +kernel
theorem d_Hi_pack_26 : decode b_Hi_pack 26 = .ok (.ishl, 1) := by decide +kernel
theorem d_Hi_pack_27 : decode b_Hi_pack 27 = .ok (.i2l, 1) := by decide +kernel
theorem d_Hi_pack_28 : decode b_Hi_pack 28 = .ok (.lor, 1) := by decide +kernel
theorem d_Hi_pack_29 : decode b_Hi_pack 29 = .ok (.aload_n 0, 1) := by decide +kernel
theorem d_Hi_pack_30 : decode b_Hi_pack 30 = .ok (.getfield 40, 3) := by decide +kernel
theorem d_Hi_pack_33 : decode b_Hi_pack 33 = .ok (.iload 4, 2) := by decide +kernel
theorem d_Hi_pack_35 : decode b_Hi_pack 35 = .ok (.iaload, 1) := by decide +kernel
theorem d_Hi_pack_36 : decode b_Hi_pack 36 = .ok (.i2l, 1) := by decide +kernel
theorem d_Hi_pack_37 : decode b_Hi_pack 37 = .ok (.lor, 1) := by decide +kernel
theorem d_Hi_pack_38 : decode b_Hi_pack 38 = .ok (.lstore_n 2, 1) := by decide +kernel
theorem d_Hi_pack_39 : decode b_Hi_pack 39 = .ok (.iinc 4 1, 3) := by decide +kernel
theorem d_Hi_pack_42 : decode b_Hi_pack 42 = .ok (.goto (-37), 3) := by decide +kernel
theorem d_Hi_pack_45 : decode b_Hi_pack 45 = .ok (.lload_n 2, 1) := by decide +kernel
theorem d_Hi_pack_46 : decode b_Hi_pack 46 = .ok (.lreturn, 1) := by decide +kernel
theorem d_Lo_numberOfTrailingZeros_0 : decode b_Lo_numberOfTrailingZeros 0 = .ok (.lload_n 0, 1) := by decide +kernel
theorem d_Lo_numberOfTrailingZeros_1 : decode b_Lo_numberOfTrailingZeros 1 = .ok (.l2i, 1) := by decide +kernel
theorem d_Lo_numberOfTrailingZeros_2 : decode b_Lo_numberOfTrailingZeros 2 = .ok (.istore_n 2, 1) := by decide +kernel
theorem d_Lo_numberOfTrailingZeros_3 : decode b_Lo_numberOfTrailingZeros 3 = .ok (.iload_n 2, 1) := by decide +kernel
theorem d_Lo_numberOfTrailingZeros_4 : decode b_Lo_numberOfTrailingZeros 4 = .ok (.ifCond .ne 17, 3) := by decide +kernel
theorem d_Lo_numberOfTrailingZeros_7 : decode b_Lo_numberOfTrailingZeros 7 = .ok (.bipush 32, 2) := by decide +kernel
theorem d_Lo_numberOfTrailingZeros_9 : decode b_Lo_numberOfTrailingZeros 9 = .ok (.lload_n 0, 1) := by decide +kernel
theorem d_Lo_numberOfTrailingZeros_10 : decode b_Lo_numberOfTrailingZeros 10 = .ok (.bipush 32, 2) := by decide +kernel
theorem d_Lo_numberOfTrailingZeros_12 : decode b_Lo_numberOfTrailingZeros 12 = .ok (.lushr, 1) := by decide +kernel
theorem d_Lo_numberOfTrailingZeros_13 : decode b_Lo_numberOfTrailingZeros 13 = .ok (.l2i, 1) := by decide +kernel
theorem d_Lo_numberOfTrailingZeros_14 : decode b_Lo_numberOfTrailingZeros 14 = .ok (.invokestatic 311, 3) := by decide +kernel
theorem d_Lo_numberOfTrailingZeros_17 : decode b_Lo_numberOfTrailingZeros 17 = .ok (.iadd, 1) := by decide +kernel
theorem d_Lo_numberOfTrailingZeros_18 : decode b_Lo_numberOfTrailingZeros 18 = .ok (.goto 7, 3) := by decide +kernel
theorem d_Lo_numberOfTrailingZeros_21 : decode b_Lo_numberOfTrailingZeros 21 = .ok (.iload_n 2, 1) := by decide +kernel
theorem d_Lo_numberOfTrailingZeros_22 : decode b_Lo_numberOfTrailingZeros 22 = .ok (.invokestatic 311, 3) := by decide +kernel
theorem d_Lo_numberOfTrailingZeros_25 : decode b_Lo_numberOfTrailingZeros 25 = .ok (.ireturn, 1) := by decide +kernel
theorem d_In_numberOfTrailingZeros_0 : decode b_In_numberOfTrailingZeros 0 = .ok (.iload_n 0, 1) := by decide +kernel
theorem d_In_numberOfTrailingZeros_1 : decode b_In_numberOfTrailingZeros 1 = .ok (.iconst (-1), 1) := by decide +kernel
theorem d_In_numberOfTrailingZeros_2 : decode b_In_numberOfTrailingZeros 2 = .ok (.ixor, 1) := by decide +kernel
theorem d_In_numberOfTrailingZeros_3 : decode b_In_numberOfTrailingZeros 3 = .ok (.iload_n 0, 1) := by decide +kernel
theorem d_In_numberOfTrailingZeros_4 : decode b_In_numberOfTrailingZeros 4 = .ok (.iconst 1, 1) := by decide +kernel
theorem d_In_numberOfTrailingZeros_5 : decode b_In_numberOfTrailingZeros 5 = .ok (.isub, 1) := by decide +kernel
theorem d_In_numberOfTrailingZeros_6 : decode b_In_numberOfTrailingZeros 6 = .ok (.iand, 1) := by decide +kernel
theorem d_In_numberOfTrailingZeros_7 : decode b_In_numberOfTrailingZeros 7 = .ok (.istore_n 0, 1) := by decide +kernel
theorem d_In_numberOfTrailingZeros_8 : decode b_In_numberOfTrailingZeros 8 = .ok (.iload_n 0, 1) := by decide +kernel
theorem d_In_numberOfTrailingZeros_9 : decode b_In_numberOfTrailingZeros 9 = .ok (.ifCond .gt 8, 3) := by decide +kernel
theorem d_In_numberOfTrailingZeros_12 : decode b_In_numberOfTrailingZeros 12 = .ok (.iload_n 0, 1) := by decide +kernel
theorem d_In_numberOfTrailingZeros_13 : decode b_In_numberOfTrailingZeros 13 = .ok (.bipush 32, 2) := by decide +kernel
theorem d_In_numberOfTrailingZeros_15 : decode b_In_numberOfTrailingZeros 15 = .ok (.iand, 1) := by decide +kernel
theorem d_In_numberOfTrailingZeros_16 : decode b_In_numberOfTrailingZeros 16 = .ok (.ireturn, 1) := by decide +kernel
theorem d_In_numberOfTrailingZeros_17 : decode b_In_numberOfTrailingZeros 17 = .ok (.iconst 1, 1) := by decide +kernel
theorem d_In_numberOfTrailingZeros_18 : decode b_In_numberOfTrailingZeros 18 = .ok (.istore_n 1, 1) := by decide +kernel
theorem d_In_numberOfTrailingZeros_19 : decode b_In_numberOfTrailingZeros 19 = .ok (.iload_n 0, 1) := by decide +kernel
theorem d_In_numberOfTrailingZeros_20 : decode b_In_numberOfTrailingZeros 20 = .ok (.ldc_w 264, 3) := by decide +kernel
theorem d_In_numberOfTrailingZeros_23 : decode b_In_numberOfTrailingZeros 23 = .ok (.if_icmp .le 11, 3) := by decide +kernel
theorem d_In_numberOfTrailingZeros_26 : decode b_In_numberOfTrailingZeros 26 = .ok (.iinc 1 16, 3) := by decide +kernel
theorem d_In_numberOfTrailingZeros_29 : decode b_In_numberOfTrailingZeros 29 = .ok (.iload_n 0, 1) := by decide +kernel
theorem d_In_numberOfTrailingZeros_30 : decode b_In_numberOfTrailingZeros 30 = .ok (.bipush 16, 2) := by decide +kernel
theorem d_In_numberOfTrailingZeros_32 : decode b_In_numberOfTrailingZeros 32 = .ok (.iushr, 1) := by decide +kernel
theorem d_In_numberOfTrailingZeros_33 : decode b_In_numberOfTrailingZeros 33 = .ok (.istore_n 0, 1) := by decide +kernel
theorem d_In_numberOfTrailingZeros_34 : decode b_In_numberOfTrailingZeros 34 = .ok (.iload_n 0, 1) := by decide +kernel
theorem d_In_numberOfTrailingZeros_35 : decode b_In_numberOfTrailingZeros 35 = .ok (.sipush 256, 3) := by decide +kernel
theorem d_In_numberOfTrailingZeros_38 : decode b_In_numberOfTrailingZeros 38 = .ok (.if_icmp .le 11, 3) := by decide +kernel
theorem d_In_numberOfTrailingZeros_41 : decode b_In_numberOfTrailingZeros 41 = .ok (.iinc 1 8, 3) := by decide +kernel
theorem d_In_numberOfTrailingZeros_44 : decode b_In_numberOfTrailingZeros 44 = .ok (.iload_n 0, 1) := by decide +kernel
theorem d_In_numberOfTrailingZeros_45 : decode b_In_numberOfTrailingZeros 45 = .ok (.bipush 8, 2) := by decide +kernel
theorem d_In_numberOfTrailingZeros_47 : decode b_In_numberOfTrailingZeros 47 = .ok (.iushr, 1) := by decide +kernel
theorem d_In_numberOfTrailingZeros_48 : decode b_In_numberOfTrailingZeros 48 = .ok (.istore_n 0, 1) := by decide +kernel
theorem d_In_numberOfTrailingZeros_49 : decode b_In_numberOfTrailingZeros 49 = .ok (.iload_n 0, 1) := by decide +kernel
theorem d_In_numberOfTrailingZeros_50 : decode b_In_numberOfTrailingZeros 50 = .ok (.bipush 16, 2) := by decide +kernel
theorem d_In_numberOfTrailingZeros_52 : decode b_In_numberOfTrailingZeros 52 = .ok (.if_icmp .le 10, 3) := by decide +kernel
theorem d_In_numberOfTrailingZeros_55 : decode b_In_numberOfTrailingZeros 55 = .ok (.iinc 1 4, 3) := by decide +kernel
theorem d_In_numberOfTrailingZeros_58 : decode b_In_numberOfTrailingZeros 58 = .ok (.iload_n 0, 1) := by decide +kernel
theorem d_In_numberOfTrailingZeros_59 : decode b_In_numberOfTrailingZeros 59 = .ok (.iconst 4, 1) := by decide +kernel
theorem d_In_numberOfTrailingZeros_60 : decode b_In_numberOfTrailingZeros 60 = .ok (.iushr, 1) := by decide +kernel
theorem d_In_numberOfTrailingZeros_61 : decode b_In_numberOfTrailingZeros 61 = .ok (.istore_n 0, 1) := by decide +kernel
theorem d_In_numberOfTrailingZeros_62 : decode b_In_numberOfTrailingZeros 62 = .ok (.iload_n 0, 1) := by decide +kernel
theorem d_In_numberOfTrailingZeros_63 : decode b_In_numberOfTrailingZeros 63 = .ok (.iconst 4, 1) := by decide +kernel
theorem d_In_numberOfTrailingZeros_64 : decode b_In_numberOfTrailingZeros 64 = .ok (.if_icmp .le 10, 3) := by decide +kernel
theorem d_In_numberOfTrailingZeros_67 : decode b_In_numberOfTrailingZeros 67 = .ok (.iinc 1 2, 3) := by decide +kernel
theorem d_In_numberOfTrailingZeros_70 : decode b_In_numberOfTrailingZeros 70 = .ok (.iload_n 0, 1) := by decide +kernel
theorem d_In_numberOfTrailingZeros_71 : decode b_In_numberOfTrailingZeros 71 = .ok (.iconst 2, 1) := by decide +kernel
theorem d_In_numberOfTrailingZeros_72 : decode b_In_numberOfTrailingZeros 72 = .ok (.iushr, 1) := by decide +kernel
theorem d_In_numberOfTrailingZeros_73 : decode b_In_numberOfTrailingZeros 73 = .ok (.istore_n 0, 1) := by decide +kernel
theorem d_In_numberOfTrailingZeros_74 : decode b_In_numberOfTrailingZeros 74 = .ok (.iload_n 1, 1) := by decide +kernel
theorem d_In_numberOfTrailingZeros_75 : decode b_In_numberOfTrailingZeros 75 = .ok (.iload_n 0, 1) := by decide +kernel
theorem d_In_numberOfTrailingZeros_76 : decode b_In_numberOfTrailingZeros 76 = .ok (.iconst 1, 1) := by decide +kernel
theorem d_In_numberOfTrailingZeros_77 : decode b_In_numberOfTrailingZeros 77 = .ok (.iushr, 1) := by decide +kernel
theorem d_In_numberOfTrailingZeros_78 : decode b_In_numberOfTrailingZeros 78 = .ok (.iadd, 1) := by decide +kernel
theorem d_In_numberOfTrailingZeros_79 : decode b_In_numberOfTrailingZeros 79 = .ok (.ireturn, 1) := by decide +kernel
theorem d_Lw_relay_0 : decode b_Lw_relay 0 = .ok (.aload 5, 2) := by decide +kernel
theorem d_Lw_relay_2 : decode b_Lw_relay 2 = .ok (.iconst 0, 1) := by decide +kernel
theorem d_Lw_relay_3 : decode b_Lw_relay 3 = .ok (.aload_n 0, 1) := by decide +kernel
theorem d_Lw_relay_4 : decode b_Lw_relay 4 = .ok (.iload_n 1, 1) := by decide +kernel
theorem d_Lw_relay_5 : decode b_Lw_relay 5 = .ok (.iload_n 2, 1) := by decide +kernel
theorem d_Lw_relay_6 : decode b_Lw_relay 6 = .ok (.iload_n 3, 1) := by decide +kernel
theorem d_Lw_relay_7 : decode b_Lw_relay 7 = .ok (.iload 4, 2) := by decide +kernel
theorem d_Lw_relay_9 : decode b_Lw_relay 9 = .ok (.invokevirtual 7, 3) := by decide +kernel
theorem d_Lw_relay_12 : decode b_Lw_relay 12 = .ok (.i2l, 1) := by decide +kernel
theorem d_Lw_relay_13 : decode b_Lw_relay 13 = .ok (.lastore, 1) := by decide +kernel
theorem d_Lw_relay_14 : decode b_Lw_relay 14 = .ok (.goto 11, 3) := by decide +kernel
theorem d_Lw_relay_17 : decode b_Lw_relay 17 = .ok (.astore 6, 2) := by decide +kernel
theorem d_Lw_relay_19 : decode b_Lw_relay 19 = .ok (.iconst 1, 1) := by decide +kernel
theorem d_Lw_relay_20 : decode b_Lw_relay 20 = .ok (.ireturn, 1) := by decide +kernel
theorem d_Lw_relay_21 : decode b_Lw_relay 21 = .ok (.astore 6, 2) := by decide +kernel
theorem d_Lw_relay_23 : decode b_Lw_relay 23 = .ok (.iconst 2, 1) := by decide +kernel
theorem d_Lw_relay_24 : decode b_Lw_relay 24 = .ok (.ireturn, 1) := by decide +kernel
theorem d_Lw_relay_25 : decode b_Lw_relay 25 = .ok (.iconst 0, 1) := by decide +kernel
theorem d_Lw_relay_26 : decode b_Lw_relay 26 = .ok (.ireturn, 1) := by decide +kernel
theorem d_Lw_contact_0 : decode b_Lw_contact 0 = .ok (.aload 5, 2) := by decide +kernel
theorem d_Lw_contact_2 : decode b_Lw_contact 2 = .ok (.iconst 0, 1) := by decide +kernel
theorem d_Lw_contact_3 : decode b_Lw_contact 3 = .ok (.aload_n 0, 1) := by decide +kernel
theorem d_Lw_contact_4 : decode b_Lw_contact 4 = .ok (.iload_n 1, 1) := by decide +kernel
theorem d_Lw_contact_5 : decode b_Lw_contact 5 = .ok (.iload_n 2, 1) := by decide +kernel
theorem d_Lw_contact_6 : decode b_Lw_contact 6 = .ok (.iload_n 3, 1) := by decide +kernel
theorem d_Lw_contact_7 : decode b_Lw_contact 7 = .ok (.iload 4, 2) := by decide +kernel
theorem d_Lw_contact_9 : decode b_Lw_contact 9 = .ok (.invokevirtual 17, 3) := by decide +kernel
theorem d_Lw_contact_12 : decode b_Lw_contact 12 = .ok (.i2l, 1) := by decide +kernel
theorem d_Lw_contact_13 : decode b_Lw_contact 13 = .ok (.lastore, 1) := by decide +kernel
theorem d_Lw_contact_14 : decode b_Lw_contact 14 = .ok (.goto 11, 3) := by decide +kernel
theorem d_Lw_contact_17 : decode b_Lw_contact 17 = .ok (.astore 6, 2) := by decide +kernel
theorem d_Lw_contact_19 : decode b_Lw_contact 19 = .ok (.iconst 1, 1) := by decide +kernel
theorem d_Lw_contact_20 : decode b_Lw_contact 20 = .ok (.ireturn, 1) := by decide +kernel
theorem d_Lw_contact_21 : decode b_Lw_contact 21 = .ok (.astore 6, 2) := by decide +kernel
theorem d_Lw_contact_23 : decode b_Lw_contact 23 = .ok (.iconst 2, 1) := by decide +kernel
theorem d_Lw_contact_24 : decode b_Lw_contact 24 = .ok (.ireturn, 1) := by decide +kernel
theorem d_Lw_contact_25 : decode b_Lw_contact 25 = .ok (.iconst 0, 1) := by decide +kernel
theorem d_Lw_contact_26 : decode b_Lw_contact 26 = .ok (.ireturn, 1) := by decide +kernel
theorem d_Lw_knob_0 : decode b_Lw_knob 0 = .ok (.aload_n 3, 1) := by decide +kernel
theorem d_Lw_knob_1 : decode b_Lw_knob 1 = .ok (.iconst 0, 1) := by decide +kernel
theorem d_Lw_knob_2 : decode b_Lw_knob 2 = .ok (.aload_n 0, 1) := by decide +kernel
theorem d_Lw_knob_3 : decode b_Lw_knob 3 = .ok (.iload_n 1, 1) := by decide +kernel
theorem d_Lw_knob_4 : decode b_Lw_knob 4 = .ok (.iload_n 2, 1) := by decide +kernel
theorem d_Lw_knob_5 : decode b_Lw_knob 5 = .ok (.invokevirtual 20, 3) := by decide +kernel
theorem d_Lw_knob_8 : decode b_Lw_knob 8 = .ok (.i2l, 1) := by decide +kernel
theorem d_Lw_knob_9 : decode b_Lw_knob 9 = .ok (.lastore, 1) := by decide +kernel
theorem d_Lw_knob_10 : decode b_Lw_knob 10 = .ok (.goto 11, 3) := by decide +kernel
theorem d_Lw_knob_13 : decode b_Lw_knob 13 = .ok (.astore 4, 2) := by decide +kernel
theorem d_Lw_knob_15 : decode b_Lw_knob 15 = .ok (.iconst 1, 1) := by decide +kernel
theorem d_Lw_knob_16 : decode b_Lw_knob 16 = .ok (.ireturn, 1) := by decide +kernel
theorem d_Lw_knob_17 : decode b_Lw_knob 17 = .ok (.astore 4, 2) := by decide +kernel
theorem d_Lw_knob_19 : decode b_Lw_knob 19 = .ok (.iconst 2, 1) := by decide +kernel
theorem d_Lw_knob_20 : decode b_Lw_knob 20 = .ok (.ireturn, 1) := by decide +kernel
theorem d_Lw_knob_21 : decode b_Lw_knob 21 = .ok (.iconst 0, 1) := by decide +kernel
theorem d_Lw_knob_22 : decode b_Lw_knob 22 = .ok (.ireturn, 1) := by decide +kernel
theorem d_Lw_diode_0 : decode b_Lw_diode 0 = .ok (.aload_n 3, 1) := by decide +kernel
theorem d_Lw_diode_1 : decode b_Lw_diode 1 = .ok (.iconst 0, 1) := by decide +kernel
theorem d_Lw_diode_2 : decode b_Lw_diode 2 = .ok (.aload_n 0, 1) := by decide +kernel
theorem d_Lw_diode_3 : decode b_Lw_diode 3 = .ok (.iload_n 1, 1) := by decide +kernel
theorem d_Lw_diode_4 : decode b_Lw_diode 4 = .ok (.iload_n 2, 1) := by decide +kernel
theorem d_Lw_diode_5 : decode b_Lw_diode 5 = .ok (.invokevirtual 24, 3) := by decide +kernel
theorem d_Lw_diode_8 : decode b_Lw_diode 8 = .ok (.i2l, 1) := by decide +kernel
theorem d_Lw_diode_9 : decode b_Lw_diode 9 = .ok (.lastore, 1) := by decide +kernel
theorem d_Lw_diode_10 : decode b_Lw_diode 10 = .ok (.goto 11, 3) := by decide +kernel
theorem d_Lw_diode_13 : decode b_Lw_diode 13 = .ok (.astore 4, 2) := by decide +kernel
theorem d_Lw_diode_15 : decode b_Lw_diode 15 = .ok (.iconst 1, 1) := by decide +kernel
theorem d_Lw_diode_16 : decode b_Lw_diode 16 = .ok (.ireturn, 1) := by decide +kernel
theorem d_Lw_diode_17 : decode b_Lw_diode 17 = .ok (.astore 4, 2) := by decide +kernel
theorem d_Lw_diode_19 : decode b_Lw_diode 19 = .ok (.iconst 2, 1) := by decide +kernel
theorem d_Lw_diode_20 : decode b_Lw_diode 20 = .ok (.ireturn, 1) := by decide +kernel
theorem d_Lw_diode_21 : decode b_Lw_diode 21 = .ok (.iconst 0, 1) := by decide +kernel
theorem d_Lw_diode_22 : decode b_Lw_diode 22 = .ok (.ireturn, 1) := by decide +kernel
theorem d_Lw_lamp_0 : decode b_Lw_lamp 0 = .ok (.aload_n 3, 1) := by decide +kernel
theorem d_Lw_lamp_1 : decode b_Lw_lamp 1 = .ok (.iconst 0, 1) := by decide +kernel
theorem d_Lw_lamp_2 : decode b_Lw_lamp 2 = .ok (.aload_n 0, 1) := by decide +kernel
theorem d_Lw_lamp_3 : decode b_Lw_lamp 3 = .ok (.iload_n 1, 1) := by decide +kernel
theorem d_Lw_lamp_4 : decode b_Lw_lamp 4 = .ok (.iload_n 2, 1) := by decide +kernel
theorem d_Lw_lamp_5 : decode b_Lw_lamp 5 = .ok (.invokevirtual 27, 3) := by decide +kernel
theorem d_Lw_lamp_8 : decode b_Lw_lamp 8 = .ok (.i2l, 1) := by decide +kernel
theorem d_Lw_lamp_9 : decode b_Lw_lamp 9 = .ok (.lastore, 1) := by decide +kernel
theorem d_Lw_lamp_10 : decode b_Lw_lamp 10 = .ok (.goto 11, 3) := by decide +kernel
theorem d_Lw_lamp_13 : decode b_Lw_lamp 13 = .ok (.astore 4, 2) := by decide +kernel
theorem d_Lw_lamp_15 : decode b_Lw_lamp 15 = .ok (.iconst 1, 1) := by decide +kernel
theorem d_Lw_lamp_16 : decode b_Lw_lamp 16 = .ok (.ireturn, 1) := by decide +kernel
theorem d_Lw_lamp_17 : decode b_Lw_lamp 17 = .ok (.astore 4, 2) := by decide +kernel
theorem d_Lw_lamp_19 : decode b_Lw_lamp 19 = .ok (.iconst 2, 1) := by decide +kernel
theorem d_Lw_lamp_20 : decode b_Lw_lamp 20 = .ok (.ireturn, 1) := by decide +kernel
theorem d_Lw_lamp_21 : decode b_Lw_lamp 21 = .ok (.iconst 0, 1) := by decide +kernel
theorem d_Lw_lamp_22 : decode b_Lw_lamp 22 = .ok (.ireturn, 1) := by decide +kernel
theorem d_Lw_turn_0 : decode b_Lw_turn 0 = .ok (.aload_n 3, 1) := by decide +kernel
theorem d_Lw_turn_1 : decode b_Lw_turn 1 = .ok (.iconst 0, 1) := by decide +kernel
theorem d_Lw_turn_2 : decode b_Lw_turn 2 = .ok (.aload_n 0, 1) := by decide +kernel
theorem d_Lw_turn_3 : decode b_Lw_turn 3 = .ok (.iload_n 1, 1) := by decide +kernel
theorem d_Lw_turn_4 : decode b_Lw_turn 4 = .ok (.iload_n 2, 1) := by decide +kernel
theorem d_Lw_turn_5 : decode b_Lw_turn 5 = .ok (.invokevirtual 30, 3) := by decide +kernel
theorem d_Lw_turn_8 : decode b_Lw_turn 8 = .ok (.ifCond .eq 7, 3) := by decide +kernel
theorem d_Lw_turn_11 : decode b_Lw_turn 11 = .ok (.lconst 1, 1) := by decide +kernel
theorem d_Lw_turn_12 : decode b_Lw_turn 12 = .ok (.goto 4, 3) := by decide +kernel
theorem d_Lw_turn_15 : decode b_Lw_turn 15 = .ok (.lconst 0, 1) := by decide +kernel
theorem d_Lw_turn_16 : decode b_Lw_turn 16 = .ok (.lastore, 1) := by decide +kernel
theorem d_Lw_turn_17 : decode b_Lw_turn 17 = .ok (.goto 7, 3) := by decide +kernel
theorem d_Lw_turn_20 : decode b_Lw_turn 20 = .ok (.astore 4, 2) := by decide +kernel
theorem d_Lw_turn_22 : decode b_Lw_turn 22 = .ok (.iconst 1, 1) := by decide +kernel
theorem d_Lw_turn_23 : decode b_Lw_turn 23 = .ok (.ireturn, 1) := by decide +kernel
theorem d_Lw_turn_24 : decode b_Lw_turn 24 = .ok (.iconst 0, 1) := by decide +kernel
theorem d_Lw_turn_25 : decode b_Lw_turn 25 = .ok (.ireturn, 1) := by decide +kernel
theorem d_Lw_dial_0 : decode b_Lw_dial 0 = .ok (.aload_n 0, 1) := by decide +kernel
theorem d_Lw_dial_1 : decode b_Lw_dial 1 = .ok (.iload_n 1, 1) := by decide +kernel
theorem d_Lw_dial_2 : decode b_Lw_dial 2 = .ok (.iload_n 2, 1) := by decide +kernel
theorem d_Lw_dial_3 : decode b_Lw_dial 3 = .ok (.iload_n 3, 1) := by decide +kernel
theorem d_Lw_dial_4 : decode b_Lw_dial 4 = .ok (.invokevirtual 34, 3) := by decide +kernel
theorem d_Lw_dial_7 : decode b_Lw_dial 7 = .ok (.goto 7, 3) := by decide +kernel
theorem d_Lw_dial_10 : decode b_Lw_dial 10 = .ok (.astore 4, 2) := by decide +kernel
theorem d_Lw_dial_12 : decode b_Lw_dial 12 = .ok (.iconst 1, 1) := by decide +kernel
theorem d_Lw_dial_13 : decode b_Lw_dial 13 = .ok (.ireturn, 1) := by decide +kernel
theorem d_Lw_dial_14 : decode b_Lw_dial 14 = .ok (.iconst 0, 1) := by decide +kernel
theorem d_Lw_dial_15 : decode b_Lw_dial 15 = .ok (.ireturn, 1) := by decide +kernel
theorem d_Lw_tick_0 : decode b_Lw_tick 0 = .ok (.aload_n 2, 1) := by decide +kernel
theorem d_Lw_tick_1 : decode b_Lw_tick 1 = .ok (.iconst 0, 1) := by decide +kernel
theorem d_Lw_tick_2 : decode b_Lw_tick 2 = .ok (.aload_n 0, 1) := by decide +kernel
theorem d_Lw_tick_3 : decode b_Lw_tick 3 = .ok (.iload_n 1, 1) := by decide +kernel
theorem d_Lw_tick_4 : decode b_Lw_tick 4 = .ok (.invokevirtual 38, 3) := by decide +kernel
theorem d_Lw_tick_7 : decode b_Lw_tick 7 = .ok (.i2l, 1) := by decide +kernel
theorem d_Lw_tick_8 : decode b_Lw_tick 8 = .ok (.lastore, 1) := by decide +kernel
theorem d_Lw_tick_9 : decode b_Lw_tick 9 = .ok (.goto 6, 3) := by decide +kernel
theorem d_Lw_tick_12 : decode b_Lw_tick 12 = .ok (.astore_n 3, 1) := by decide +kernel
theorem d_Lw_tick_13 : decode b_Lw_tick 13 = .ok (.iconst 1, 1) := by decide +kernel
theorem d_Lw_tick_14 : decode b_Lw_tick 14 = .ok (.ireturn, 1) := by decide +kernel
theorem d_Lw_tick_15 : decode b_Lw_tick 15 = .ok (.iconst 0, 1) := by decide +kernel
theorem d_Lw_tick_16 : decode b_Lw_tick 16 = .ok (.ireturn, 1) := by decide +kernel
theorem d_Lw_settle_0 : decode b_Lw_settle 0 = .ok (.aload_n 2, 1) := by decide +kernel
theorem d_Lw_settle_1 : decode b_Lw_settle 1 = .ok (.iconst 0, 1) := by decide +kernel
theorem d_Lw_settle_2 : decode b_Lw_settle 2 = .ok (.aload_n 0, 1) := by decide +kernel
theorem d_Lw_settle_3 : decode b_Lw_settle 3 = .ok (.iload_n 1, 1) := by decide +kernel
theorem d_Lw_settle_4 : decode b_Lw_settle 4 = .ok (.invokevirtual 42, 3) := by decide +kernel
theorem d_Lw_settle_7 : decode b_Lw_settle 7 = .ok (.i2l, 1) := by decide +kernel
theorem d_Lw_settle_8 : decode b_Lw_settle 8 = .ok (.lastore, 1) := by decide +kernel
theorem d_Lw_settle_9 : decode b_Lw_settle 9 = .ok (.goto 9, 3) := by decide +kernel
theorem d_Lw_settle_12 : decode b_Lw_settle 12 = .ok (.astore_n 3, 1) := by decide +kernel
theorem d_Lw_settle_13 : decode b_Lw_settle 13 = .ok (.iconst 1, 1) := by decide +kernel
theorem d_Lw_settle_14 : decode b_Lw_settle 14 = .ok (.ireturn, 1) := by decide +kernel
theorem d_Lw_settle_15 : decode b_Lw_settle 15 = .ok (.astore_n 3, 1) := by decide +kernel
theorem d_Lw_settle_16 : decode b_Lw_settle 16 = .ok (.iconst 2, 1) := by decide +kernel
theorem d_Lw_settle_17 : decode b_Lw_settle 17 = .ok (.ireturn, 1) := by decide +kernel
theorem d_Lw_settle_18 : decode b_Lw_settle 18 = .ok (.iconst 0, 1) := by decide +kernel
theorem d_Lw_settle_19 : decode b_Lw_settle 19 = .ok (.ireturn, 1) := by decide +kernel
theorem d_Lw_circle_0 : decode b_Lw_circle 0 = .ok (.aload_n 2, 1) := by decide +kernel
theorem d_Lw_circle_1 : decode b_Lw_circle 1 = .ok (.iconst 0, 1) := by decide +kernel
theorem d_Lw_circle_2 : decode b_Lw_circle 2 = .ok (.aload_n 0, 1) := by decide +kernel
theorem d_Lw_circle_3 : decode b_Lw_circle 3 = .ok (.iload_n 1, 1) := by decide +kernel
theorem d_Lw_circle_4 : decode b_Lw_circle 4 = .ok (.invokevirtual 47, 3) := by decide +kernel
theorem d_Lw_circle_7 : decode b_Lw_circle 7 = .ok (.i2l, 1) := by decide +kernel
theorem d_Lw_circle_8 : decode b_Lw_circle 8 = .ok (.lastore, 1) := by decide +kernel
theorem d_Lw_circle_9 : decode b_Lw_circle 9 = .ok (.goto 9, 3) := by decide +kernel
theorem d_Lw_circle_12 : decode b_Lw_circle 12 = .ok (.astore_n 3, 1) := by decide +kernel
theorem d_Lw_circle_13 : decode b_Lw_circle 13 = .ok (.iconst 1, 1) := by decide +kernel
theorem d_Lw_circle_14 : decode b_Lw_circle 14 = .ok (.ireturn, 1) := by decide +kernel
theorem d_Lw_circle_15 : decode b_Lw_circle 15 = .ok (.astore_n 3, 1) := by decide +kernel
theorem d_Lw_circle_16 : decode b_Lw_circle 16 = .ok (.iconst 2, 1) := by decide +kernel
theorem d_Lw_circle_17 : decode b_Lw_circle 17 = .ok (.ireturn, 1) := by decide +kernel
theorem d_Lw_circle_18 : decode b_Lw_circle 18 = .ok (.iconst 0, 1) := by decide +kernel
theorem d_Lw_circle_19 : decode b_Lw_circle 19 = .ok (.ireturn, 1) := by decide +kernel
theorem d_Lw_race_0 : decode b_Lw_race 0 = .ok (.aload 5, 2) := by decide +kernel
theorem d_Lw_race_2 : decode b_Lw_race 2 = .ok (.iconst 0, 1) := by decide +kernel
theorem d_Lw_race_3 : decode b_Lw_race 3 = .ok (.aload_n 0, 1) := by decide +kernel
theorem d_Lw_race_4 : decode b_Lw_race 4 = .ok (.iload_n 1, 1) := by decide +kernel
theorem d_Lw_race_5 : decode b_Lw_race 5 = .ok (.iload_n 2, 1) := by decide +kernel
theorem d_Lw_race_6 : decode b_Lw_race 6 = .ok (.iload_n 3, 1) := by decide +kernel
theorem d_Lw_race_7 : decode b_Lw_race 7 = .ok (.iload 4, 2) := by decide +kernel
theorem d_Lw_race_9 : decode b_Lw_race 9 = .ok (.invokevirtual 50, 3) := by decide +kernel
theorem d_Lw_race_12 : decode b_Lw_race 12 = .ok (.i2l, 1) := by decide +kernel
theorem d_Lw_race_13 : decode b_Lw_race 13 = .ok (.lastore, 1) := by decide +kernel
theorem d_Lw_race_14 : decode b_Lw_race 14 = .ok (.goto 7, 3) := by decide +kernel
theorem d_Lw_race_17 : decode b_Lw_race 17 = .ok (.astore 6, 2) := by decide +kernel
theorem d_Lw_race_19 : decode b_Lw_race 19 = .ok (.iconst 1, 1) := by decide +kernel
theorem d_Lw_race_20 : decode b_Lw_race 20 = .ok (.ireturn, 1) := by decide +kernel
theorem d_Lw_race_21 : decode b_Lw_race 21 = .ok (.iconst 0, 1) := by decide +kernel
theorem d_Lw_race_22 : decode b_Lw_race 22 = .ok (.ireturn, 1) := by decide +kernel
theorem d_Lw_state_0 : decode b_Lw_state 0 = .ok (.aload_n 3, 1) := by decide +kernel
theorem d_Lw_state_1 : decode b_Lw_state 1 = .ok (.iconst 0, 1) := by decide +kernel
theorem d_Lw_state_2 : decode b_Lw_state 2 = .ok (.aload_n 0, 1) := by decide +kernel
theorem d_Lw_state_3 : decode b_Lw_state 3 = .ok (.iload_n 1, 1) := by decide +kernel
theorem d_Lw_state_4 : decode b_Lw_state 4 = .ok (.iload_n 2, 1) := by decide +kernel
theorem d_Lw_state_5 : decode b_Lw_state 5 = .ok (.invokevirtual 54, 3) := by decide +kernel
theorem d_Lw_state_8 : decode b_Lw_state 8 = .ok (.i2l, 1) := by decide +kernel
theorem d_Lw_state_9 : decode b_Lw_state 9 = .ok (.lastore, 1) := by decide +kernel
theorem d_Lw_state_10 : decode b_Lw_state 10 = .ok (.goto 7, 3) := by decide +kernel
theorem d_Lw_state_13 : decode b_Lw_state 13 = .ok (.astore 4, 2) := by decide +kernel
theorem d_Lw_state_15 : decode b_Lw_state 15 = .ok (.iconst 1, 1) := by decide +kernel
theorem d_Lw_state_16 : decode b_Lw_state 16 = .ok (.ireturn, 1) := by decide +kernel
theorem d_Lw_state_17 : decode b_Lw_state 17 = .ok (.iconst 0, 1) := by decide +kernel
theorem d_Lw_state_18 : decode b_Lw_state 18 = .ok (.ireturn, 1) := by decide +kernel
theorem d_Lw_node_0 : decode b_Lw_node 0 = .ok (.aload_n 2, 1) := by decide +kernel
theorem d_Lw_node_1 : decode b_Lw_node 1 = .ok (.iconst 0, 1) := by decide +kernel
theorem d_Lw_node_2 : decode b_Lw_node 2 = .ok (.aload_n 0, 1) := by decide +kernel
theorem d_Lw_node_3 : decode b_Lw_node 3 = .ok (.iload_n 1, 1) := by decide +kernel
theorem d_Lw_node_4 : decode b_Lw_node 4 = .ok (.invokevirtual 57, 3) := by decide +kernel
theorem d_Lw_node_7 : decode b_Lw_node 7 = .ok (.i2l, 1) := by decide +kernel
theorem d_Lw_node_8 : decode b_Lw_node 8 = .ok (.lastore, 1) := by decide +kernel
theorem d_Lw_node_9 : decode b_Lw_node 9 = .ok (.goto 6, 3) := by decide +kernel
theorem d_Lw_node_12 : decode b_Lw_node 12 = .ok (.astore_n 3, 1) := by decide +kernel
theorem d_Lw_node_13 : decode b_Lw_node 13 = .ok (.iconst 1, 1) := by decide +kernel
theorem d_Lw_node_14 : decode b_Lw_node 14 = .ok (.ireturn, 1) := by decide +kernel
theorem d_Lw_node_15 : decode b_Lw_node 15 = .ok (.iconst 0, 1) := by decide +kernel
theorem d_Lw_node_16 : decode b_Lw_node 16 = .ok (.ireturn, 1) := by decide +kernel
theorem d_Lw_leads_0 : decode b_Lw_leads 0 = .ok (.aload_n 3, 1) := by decide +kernel
theorem d_Lw_leads_1 : decode b_Lw_leads 1 = .ok (.iconst 0, 1) := by decide +kernel
theorem d_Lw_leads_2 : decode b_Lw_leads 2 = .ok (.aload_n 0, 1) := by decide +kernel
theorem d_Lw_leads_3 : decode b_Lw_leads 3 = .ok (.iload_n 1, 1) := by decide +kernel
theorem d_Lw_leads_4 : decode b_Lw_leads 4 = .ok (.iload_n 2, 1) := by decide +kernel
theorem d_Lw_leads_5 : decode b_Lw_leads 5 = .ok (.invokevirtual 60, 3) := by decide +kernel
theorem d_Lw_leads_8 : decode b_Lw_leads 8 = .ok (.ifCond .eq 7, 3) := by decide +kernel
theorem d_Lw_leads_11 : decode b_Lw_leads 11 = .ok (.lconst 1, 1) := by decide +kernel
theorem d_Lw_leads_12 : decode b_Lw_leads 12 = .ok (.goto 4, 3) := by decide +kernel
theorem d_Lw_leads_15 : decode b_Lw_leads 15 = .ok (.lconst 0, 1) := by decide +kernel
theorem d_Lw_leads_16 : decode b_Lw_leads 16 = .ok (.lastore, 1) := by decide +kernel
theorem d_Lw_leads_17 : decode b_Lw_leads 17 = .ok (.goto 7, 3) := by decide +kernel
theorem d_Lw_leads_20 : decode b_Lw_leads 20 = .ok (.astore 4, 2) := by decide +kernel
theorem d_Lw_leads_22 : decode b_Lw_leads 22 = .ok (.iconst 1, 1) := by decide +kernel
theorem d_Lw_leads_23 : decode b_Lw_leads 23 = .ok (.ireturn, 1) := by decide +kernel
theorem d_Lw_leads_24 : decode b_Lw_leads 24 = .ok (.iconst 0, 1) := by decide +kernel
theorem d_Lw_leads_25 : decode b_Lw_leads 25 = .ok (.ireturn, 1) := by decide +kernel
theorem d_Lw_law_0 : decode b_Lw_law 0 = .ok (.new 8, 3) := by decide +kernel
theorem d_Lw_law_3 : decode b_Lw_law 3 = .ok (.dup, 1) := by decide +kernel
theorem d_Lw_law_4 : decode b_Lw_law 4 = .ok (.invokespecial 64, 3) := by decide +kernel
theorem d_Lw_law_7 : decode b_Lw_law 7 = .ok (.astore_n 1, 1) := by decide +kernel
theorem d_Lw_law_8 : decode b_Lw_law 8 = .ok (.new 65, 3) := by decide +kernel
theorem d_Lw_law_11 : decode b_Lw_law 11 = .ok (.dup, 1) := by decide +kernel
theorem d_Lw_law_12 : decode b_Lw_law 12 = .ok (.invokespecial 67, 3) := by decide +kernel
theorem d_Lw_law_15 : decode b_Lw_law 15 = .ok (.astore_n 2, 1) := by decide +kernel
theorem d_Lw_law_16 : decode b_Lw_law 16 = .ok (.iconst 1, 1) := by decide +kernel
theorem d_Lw_law_17 : decode b_Lw_law 17 = .ok (.newarray .long, 2) := by decide +kernel
theorem d_Lw_law_19 : decode b_Lw_law 19 = .ok (.astore_n 3, 1) := by decide +kernel
theorem d_Lw_law_20 : decode b_Lw_law 20 = .ok (.iconst 0, 1) := by decide +kernel
theorem d_Lw_law_21 : decode b_Lw_law 21 = .ok (.istore 4, 2) := by decide +kernel
theorem d_Lw_law_23 : decode b_Lw_law 23 = .ok (.iload 4, 2) := by decide +kernel
theorem d_Lw_law_25 : decode b_Lw_law 25 = .ok (.aload_n 0, 1) := by decide +kernel
theorem d_Lw_law_26 : decode b_Lw_law 26 = .ok (.arraylength, 1) := by decide +kernel
theorem d_Lw_law_27 : decode b_Lw_law 27 = .ok (.iconst 5, 1) := by decide +kernel
theorem d_Lw_law_28 : decode b_Lw_law 28 = .ok (.isub, 1) := by decide +kernel
theorem d_Lw_law_29 : decode b_Lw_law 29 = .ok (.if_icmp .gt 1196, 3) := by decide +kernel
theorem d_Lw_law_32 : decode b_Lw_law 32 = .ok (.aload_n 0, 1) := by decide +kernel
theorem d_Lw_law_33 : decode b_Lw_law 33 = .ok (.iload 4, 2) := by decide +kernel
theorem d_Lw_law_35 : decode b_Lw_law 35 = .ok (.iaload, 1) := by decide +kernel
theorem d_Lw_law_36 : decode b_Lw_law 36 = .ok (.bipush 31, 2) := by decide +kernel
theorem d_Lw_law_38 : decode b_Lw_law 38 = .ok (.iand, 1) := by decide +kernel
theorem d_Lw_law_39 : decode b_Lw_law 39 = .ok (.tableswitch 1180 0 18 #[89, 181, 273, 341, 409, 477, 568, 628, 684, 740, 796, 904, 972, 985, 998, 1054, 1129, 1142, 1155], 89) := by decide +kernel
theorem d_Lw_law_128 : decode b_Lw_law 128 = .ok (.aload_n 1, 1) := by decide +kernel
theorem d_Lw_law_129 : decode b_Lw_law 129 = .ok (.aload_n 0, 1) := by decide +kernel
theorem d_Lw_law_130 : decode b_Lw_law 130 = .ok (.iload 4, 2) := by decide +kernel
theorem d_Lw_law_132 : decode b_Lw_law 132 = .ok (.iconst 1, 1) := by decide +kernel
theorem d_Lw_law_133 : decode b_Lw_law 133 = .ok (.iadd, 1) := by decide +kernel
theorem d_Lw_law_134 : decode b_Lw_law 134 = .ok (.iaload, 1) := by decide +kernel
theorem d_Lw_law_135 : decode b_Lw_law 135 = .ok (.aload_n 0, 1) := by decide +kernel
theorem d_Lw_law_136 : decode b_Lw_law 136 = .ok (.iload 4, 2) := by decide +kernel
theorem d_Lw_law_138 : decode b_Lw_law 138 = .ok (.iconst 2, 1) := by decide +kernel
theorem d_Lw_law_139 : decode b_Lw_law 139 = .ok (.iadd, 1) := by decide +kernel
theorem d_Lw_law_140 : decode b_Lw_law 140 = .ok (.iaload, 1) := by decide +kernel
theorem d_Lw_law_141 : decode b_Lw_law 141 = .ok (.aload_n 0, 1) := by decide +kernel
theorem d_Lw_law_142 : decode b_Lw_law 142 = .ok (.iload 4, 2) := by decide +kernel
theorem d_Lw_law_144 : decode b_Lw_law 144 = .ok (.iconst 3, 1) := by decide +kernel
theorem d_Lw_law_145 : decode b_Lw_law 145 = .ok (.iadd, 1) := by decide +kernel
theorem d_Lw_law_146 : decode b_Lw_law 146 = .ok (.iaload, 1) := by decide +kernel
theorem d_Lw_law_147 : decode b_Lw_law 147 = .ok (.aload_n 0, 1) := by decide +kernel
theorem d_Lw_law_148 : decode b_Lw_law 148 = .ok (.iload 4, 2) := by decide +kernel
theorem d_Lw_law_150 : decode b_Lw_law 150 = .ok (.iconst 4, 1) := by decide +kernel
theorem d_Lw_law_151 : decode b_Lw_law 151 = .ok (.iadd, 1) := by decide +kernel
theorem d_Lw_law_152 : decode b_Lw_law 152 = .ok (.iaload, 1) := by decide +kernel
theorem d_Lw_law_153 : decode b_Lw_law 153 = .ok (.aload_n 3, 1) := by decide +kernel
theorem d_Lw_law_154 : decode b_Lw_law 154 = .ok (.invokestatic 68, 3) := by decide +kernel
theorem d_Lw_law_157 : decode b_Lw_law 157 = .ok (.istore 5, 2) := by decide +kernel
theorem d_Lw_law_159 : decode b_Lw_law 159 = .ok (.aload_n 2, 1) := by decide +kernel
theorem d_Lw_law_160 : decode b_Lw_law 160 = .ok (.aload_n 0, 1) := by decide +kernel
theorem d_Lw_law_161 : decode b_Lw_law 161 = .ok (.iload 4, 2) := by decide +kernel
theorem d_Lw_law_163 : decode b_Lw_law 163 = .ok (.iconst 1, 1) := by decide +kernel
theorem d_Lw_law_164 : decode b_Lw_law 164 = .ok (.iadd, 1) := by decide +kernel
theorem d_Lw_law_165 : decode b_Lw_law 165 = .ok (.iaload, 1) := by decide +kernel
theorem d_Lw_law_166 : decode b_Lw_law 166 = .ok (.aload_n 0, 1) := by decide +kernel
theorem d_Lw_law_167 : decode b_Lw_law 167 = .ok (.iload 4, 2) := by decide +kernel
theorem d_Lw_law_169 : decode b_Lw_law 169 = .ok (.iconst 2, 1) := by decide +kernel
theorem d_Lw_law_170 : decode b_Lw_law 170 = .ok (.iadd, 1) := by decide +kernel
theorem d_Lw_law_171 : decode b_Lw_law 171 = .ok (.iaload, 1) := by decide +kernel
theorem d_Lw_law_172 : decode b_Lw_law 172 = .ok (.aload_n 0, 1) := by decide +kernel
theorem d_Lw_law_173 : decode b_Lw_law 173 = .ok (.iload 4, 2) := by decide +kernel
theorem d_Lw_law_175 : decode b_Lw_law 175 = .ok (.iconst 3, 1) := by decide +kernel
theorem d_Lw_law_176 : decode b_Lw_law 176 = .ok (.iadd, 1) := by decide +kernel
theorem d_Lw_law_177 : decode b_Lw_law 177 = .ok (.iaload, 1) := by decide +kernel
theorem d_Lw_law_178 : decode b_Lw_law 178 = .ok (.aload_n 0, 1) := by decide +kernel
theorem d_Lw_law_179 : decode b_Lw_law 179 = .ok (.iload 4, 2) := by decide +kernel
theorem d_Lw_law_181 : decode b_Lw_law 181 = .ok (.iconst 4, 1) := by decide +kernel
theorem d_Lw_law_182 : decode b_Lw_law 182 = .ok (.iadd, 1) := by decide +kernel
theorem d_Lw_law_183 : decode b_Lw_law 183 = .ok (.iaload, 1) := by decide +kernel
theorem d_Lw_law_184 : decode b_Lw_law 184 = .ok (.invokevirtual 73, 3) := by decide +kernel
theorem d_Lw_law_187 : decode b_Lw_law 187 = .ok (.istore 6, 2) := by decide +kernel
theorem d_Lw_law_189 : decode b_Lw_law 189 = .ok (.aload_n 2, 1) := by decide +kernel
theorem d_Lw_law_190 : decode b_Lw_law 190 = .ok (.invokevirtual 74, 3) := by decide +kernel
theorem d_Lw_law_193 : decode b_Lw_law 193 = .ok (.iload 5, 2) := by decide +kernel
theorem d_Lw_law_195 : decode b_Lw_law 195 = .ok (.if_icmp .eq 5, 3) := by decide +kernel
theorem d_Lw_law_198 : decode b_Lw_law 198 = .ok (.iconst 0, 1) := by decide +kernel
theorem d_Lw_law_199 : decode b_Lw_law 199 = .ok (.ireturn, 1) := by decide +kernel
theorem d_Lw_law_200 : decode b_Lw_law 200 = .ok (.iload 5, 2) := by decide +kernel
theorem d_Lw_law_202 : decode b_Lw_law 202 = .ok (.ifCond .ne 15, 3) := by decide +kernel
theorem d_Lw_law_205 : decode b_Lw_law 205 = .ok (.aload_n 3, 1) := by decide +kernel
theorem d_Lw_law_206 : decode b_Lw_law 206 = .ok (.iconst 0, 1) := by decide +kernel
theorem d_Lw_law_207 : decode b_Lw_law 207 = .ok (.laload, 1) := by decide +kernel
theorem d_Lw_law_208 : decode b_Lw_law 208 = .ok (.iload 6, 2) := by decide +kernel
theorem d_Lw_law_210 : decode b_Lw_law 210 = .ok (.i2l, 1) := by decide +kernel
theorem d_Lw_law_211 : decode b_Lw_law 211 = .ok (.lcmp, 1) := by decide +kernel
theorem d_Lw_law_212 : decode b_Lw_law 212 = .ok (.ifCond .eq 5, 3) := by decide +kernel
theorem d_Lw_law_215 : decode b_Lw_law 215 = .ok (.iconst 0, 1) := by decide +kernel
theorem d_Lw_law_216 : decode b_Lw_law 216 = .ok (.ireturn, 1) := by decide +kernel
theorem d_Lw_law_217 : decode b_Lw_law 217 = .ok (.goto 1002, 3) := by decide +kernel
theorem d_Lw_law_220 : decode b_Lw_law 220 = .ok (.aload_n 1, 1) := by decide +kernel
theorem d_Lw_law_221 : decode b_Lw_law 221 = .ok (.aload_n 0, 1) := by decide +kernel
theorem d_Lw_law_222 : decode b_Lw_law 222 = .ok (.iload 4, 2) := by decide +kernel
theorem d_Lw_law_224 : decode b_Lw_law 224 = .ok (.iconst 1, 1) := by decide +kernel
theorem d_Lw_law_225 : decode b_Lw_law 225 = .ok (.iadd, 1) := by decide +kernel
theorem d_Lw_law_226 : decode b_Lw_law 226 = .ok (.iaload, 1) := by decide +kernel
theorem d_Lw_law_227 : decode b_Lw_law 227 = .ok (.aload_n 0, 1) := by decide +kernel
theorem d_Lw_law_228 : decode b_Lw_law 228 = .ok (.iload 4, 2) := by decide +kernel
theorem d_Lw_law_230 : decode b_Lw_law 230 = .ok (.iconst 2, 1) := by decide +kernel
theorem d_Lw_law_231 : decode b_Lw_law 231 = .ok (.iadd, 1) := by decide +kernel
theorem d_Lw_law_232 : decode b_Lw_law 232 = .ok (.iaload, 1) := by decide +kernel
theorem d_Lw_law_233 : decode b_Lw_law 233 = .ok (.aload_n 0, 1) := by decide +kernel
theorem d_Lw_law_234 : decode b_Lw_law 234 = .ok (.iload 4, 2) := by decide +kernel
theorem d_Lw_law_236 : decode b_Lw_law 236 = .ok (.iconst 3, 1) := by decide +kernel
theorem d_Lw_law_237 : decode b_Lw_law 237 = .ok (.iadd, 1) := by decide +kernel
theorem d_Lw_law_238 : decode b_Lw_law 238 = .ok (.iaload, 1) := by decide +kernel
theorem d_Lw_law_239 : decode b_Lw_law 239 = .ok (.aload_n 0, 1) := by decide +kernel
theorem d_Lw_law_240 : decode b_Lw_law 240 = .ok (.iload 4, 2) := by decide +kernel
theorem d_Lw_law_242 : decode b_Lw_law 242 = .ok (.iconst 4, 1) := by decide +kernel
theorem d_Lw_law_243 : decode b_Lw_law 243 = .ok (.iadd, 1) := by decide +kernel
theorem d_Lw_law_244 : decode b_Lw_law 244 = .ok (.iaload, 1) := by decide +kernel
theorem d_Lw_law_245 : decode b_Lw_law 245 = .ok (.aload_n 3, 1) := by decide +kernel
theorem d_Lw_law_246 : decode b_Lw_law 246 = .ok (.invokestatic 78, 3) := by decide +kernel
theorem d_Lw_law_249 : decode b_Lw_law 249 = .ok (.istore 5, 2) := by decide +kernel
theorem d_Lw_law_251 : decode b_Lw_law 251 = .ok (.aload_n 2, 1) := by decide +kernel
theorem d_Lw_law_252 : decode b_Lw_law 252 = .ok (.aload_n 0, 1) := by decide +kernel
theorem d_Lw_law_253 : decode b_Lw_law 253 = .ok (.iload 4, 2) := by decide +kernel
theorem d_Lw_law_255 : decode b_Lw_law 255 = .ok (.iconst 1, 1) := by decide +kernel
theorem d_Lw_law_256 : decode b_Lw_law 256 = .ok (.iadd, 1) := by decide +kernel
theorem d_Lw_law_257 : decode b_Lw_law 257 = .ok (.iaload, 1) := by decide +kernel
theorem d_Lw_law_258 : decode b_Lw_law 258 = .ok (.aload_n 0, 1) := by decide +kernel
theorem d_Lw_law_259 : decode b_Lw_law 259 = .ok (.iload 4, 2) := by decide +kernel
theorem d_Lw_law_261 : decode b_Lw_law 261 = .ok (.iconst 2, 1) := by decide +kernel
theorem d_Lw_law_262 : decode b_Lw_law 262 = .ok (.iadd, 1) := by decide +kernel
theorem d_Lw_law_263 : decode b_Lw_law 263 = .ok (.iaload, 1) := by decide +kernel
theorem d_Lw_law_264 : decode b_Lw_law 264 = .ok (.aload_n 0, 1) := by decide +kernel
theorem d_Lw_law_265 : decode b_Lw_law 265 = .ok (.iload 4, 2) := by decide +kernel
theorem d_Lw_law_267 : decode b_Lw_law 267 = .ok (.iconst 3, 1) := by decide +kernel
theorem d_Lw_law_268 : decode b_Lw_law 268 = .ok (.iadd, 1) := by decide +kernel
theorem d_Lw_law_269 : decode b_Lw_law 269 = .ok (.iaload, 1) := by decide +kernel
theorem d_Lw_law_270 : decode b_Lw_law 270 = .ok (.aload_n 0, 1) := by decide +kernel
theorem d_Lw_law_271 : decode b_Lw_law 271 = .ok (.iload 4, 2) := by decide +kernel
theorem d_Lw_law_273 : decode b_Lw_law 273 = .ok (.iconst 4, 1) := by decide +kernel
theorem d_Lw_law_274 : decode b_Lw_law 274 = .ok (.iadd, 1) := by decide +kernel
theorem d_Lw_law_275 : decode b_Lw_law 275 = .ok (.iaload, 1) := by decide +kernel
theorem d_Lw_law_276 : decode b_Lw_law 276 = .ok (.invokevirtual 80, 3) := by decide +kernel
theorem d_Lw_law_279 : decode b_Lw_law 279 = .ok (.istore 6, 2) := by decide +kernel
theorem d_Lw_law_281 : decode b_Lw_law 281 = .ok (.aload_n 2, 1) := by decide +kernel
theorem d_Lw_law_282 : decode b_Lw_law 282 = .ok (.invokevirtual 74, 3) := by decide +kernel
theorem d_Lw_law_285 : decode b_Lw_law 285 = .ok (.iload 5, 2) := by decide +kernel
theorem d_Lw_law_287 : decode b_Lw_law 287 = .ok (.if_icmp .eq 5, 3) := by decide +kernel
theorem d_Lw_law_290 : decode b_Lw_law 290 = .ok (.iconst 0, 1) := by decide +kernel
theorem d_Lw_law_291 : decode b_Lw_law 291 = .ok (.ireturn, 1) := by decide +kernel
theorem d_Lw_law_292 : decode b_Lw_law 292 = .ok (.iload 5, 2) := by decide +kernel
theorem d_Lw_law_294 : decode b_Lw_law 294 = .ok (.ifCond .ne 15, 3) := by decide +kernel
theorem d_Lw_law_297 : decode b_Lw_law 297 = .ok (.aload_n 3, 1) := by decide +kernel
theorem d_Lw_law_298 : decode b_Lw_law 298 = .ok (.iconst 0, 1) := by decide +kernel
theorem d_Lw_law_299 : decode b_Lw_law 299 = .ok (.laload, 1) := by decide +kernel
theorem d_Lw_law_300 : decode b_Lw_law 300 = .ok (.iload 6, 2) := by decide +kernel
theorem d_Lw_law_302 : decode b_Lw_law 302 = .ok (.i2l, 1) := by decide +kernel
theorem d_Lw_law_303 : decode b_Lw_law 303 = .ok (.lcmp, 1) := by decide +kernel
theorem d_Lw_law_304 : decode b_Lw_law 304 = .ok (.ifCond .eq 5, 3) := by decide +kernel
theorem d_Lw_law_307 : decode b_Lw_law 307 = .ok (.iconst 0, 1) := by decide +kernel
theorem d_Lw_law_308 : decode b_Lw_law 308 = .ok (.ireturn, 1) := by decide +kernel
theorem d_Lw_law_309 : decode b_Lw_law 309 = .ok (.goto 910, 3) := by decide +kernel
theorem d_Lw_law_312 : decode b_Lw_law 312 = .ok (.aload_n 1, 1) := by decide +kernel
theorem d_Lw_law_313 : decode b_Lw_law 313 = .ok (.aload_n 0, 1) := by decide +kernel
theorem d_Lw_law_314 : decode b_Lw_law 314 = .ok (.iload 4, 2) := by decide +kernel
theorem d_Lw_law_316 : decode b_Lw_law 316 = .ok (.iconst 1, 1) := by decide +kernel
theorem d_Lw_law_317 : decode b_Lw_law 317 = .ok (.iadd, 1) := by decide +kernel
theorem d_Lw_law_318 : decode b_Lw_law 318 = .ok (.iaload, 1) := by decide +kernel
theorem d_Lw_law_319 : decode b_Lw_law 319 = .ok (.aload_n 0, 1) := by decide +kernel
theorem d_Lw_law_320 : decode b_Lw_law 320 = .ok (.iload 4, 2) := by decide +kernel
theorem d_Lw_law_322 : decode b_Lw_law 322 = .ok (.iconst 2, 1) := by decide +kernel
theorem d_Lw_law_323 : decode b_Lw_law 323 = .ok (.iadd, 1) := by decide +kernel
theorem d_Lw_law_324 : decode b_Lw_law 324 = .ok (.iaload, 1) := by decide +kernel
theorem d_Lw_law_325 : decode b_Lw_law 325 = .ok (.aload_n 3, 1) := by decide +kernel
theorem d_Lw_law_326 : decode b_Lw_law 326 = .ok (.invokestatic 81, 3) := by decide +kernel
theorem d_Lw_law_329 : decode b_Lw_law 329 = .ok (.istore 5, 2) := by decide +kernel
theorem d_Lw_law_331 : decode b_Lw_law 331 = .ok (.aload_n 2, 1) := by decide +kernel
theorem d_Lw_law_332 : decode b_Lw_law 332 = .ok (.aload_n 0, 1) := by decide +kernel
theorem d_Lw_law_333 : decode b_Lw_law 333 = .ok (.iload 4, 2) := by decide +kernel
theorem d_Lw_law_335 : decode b_Lw_law 335 = .ok (.iconst 1, 1) := by decide +kernel
theorem d_Lw_law_336 : decode b_Lw_law 336 = .ok (.iadd, 1) := by decide +kernel
theorem d_Lw_law_337 : decode b_Lw_law 337 = .ok (.iaload, 1) := by decide +kernel
theorem d_Lw_law_338 : decode b_Lw_law 338 = .ok (.aload_n 0, 1) := by decide +kernel
theorem d_Lw_law_339 : decode b_Lw_law 339 = .ok (.iload 4, 2) := by decide +kernel
theorem d_Lw_law_341 : decode b_Lw_law 341 = .ok (.iconst 2, 1) := by decide +kernel
theorem d_Lw_law_342 : decode b_Lw_law 342 = .ok (.iadd, 1) := by decide +kernel
theorem d_Lw_law_343 : decode b_Lw_law 343 = .ok (.iaload, 1) := by decide +kernel
theorem d_Lw_law_344 : decode b_Lw_law 344 = .ok (.invokevirtual 84, 3) := by decide +kernel
theorem d_Lw_law_347 : decode b_Lw_law 347 = .ok (.istore 6, 2) := by decide +kernel
theorem d_Lw_law_349 : decode b_Lw_law 349 = .ok (.aload_n 2, 1) := by decide +kernel
theorem d_Lw_law_350 : decode b_Lw_law 350 = .ok (.invokevirtual 74, 3) := by decide +kernel
theorem d_Lw_law_353 : decode b_Lw_law 353 = .ok (.iload 5, 2) := by decide +kernel
theorem d_Lw_law_355 : decode b_Lw_law 355 = .ok (.if_icmp .eq 5, 3) := by decide +kernel
theorem d_Lw_law_358 : decode b_Lw_law 358 = .ok (.iconst 0, 1) := by decide +kernel
theorem d_Lw_law_359 : decode b_Lw_law 359 = .ok (.ireturn, 1) := by decide +kernel
theorem d_Lw_law_360 : decode b_Lw_law 360 = .ok (.iload 5, 2) := by decide +kernel
theorem d_Lw_law_362 : decode b_Lw_law 362 = .ok (.ifCond .ne 15, 3) := by decide +kernel
theorem d_Lw_law_365 : decode b_Lw_law 365 = .ok (.aload_n 3, 1) := by decide +kernel
theorem d_Lw_law_366 : decode b_Lw_law 366 = .ok (.iconst 0, 1) := by decide +kernel
theorem d_Lw_law_367 : decode b_Lw_law 367 = .ok (.laload, 1) := by decide +kernel
theorem d_Lw_law_368 : decode b_Lw_law 368 = .ok (.iload 6, 2) := by decide +kernel
theorem d_Lw_law_370 : decode b_Lw_law 370 = .ok (.i2l, 1) := by decide +kernel
theorem d_Lw_law_371 : decode b_Lw_law 371 = .ok (.lcmp, 1) := by decide +kernel
theorem d_Lw_law_372 : decode b_Lw_law 372 = .ok (.ifCond .eq 5, 3) := by decide +kernel
theorem d_Lw_law_375 : decode b_Lw_law 375 = .ok (.iconst 0, 1) := by decide +kernel
theorem d_Lw_law_376 : decode b_Lw_law 376 = .ok (.ireturn, 1) := by decide +kernel
theorem d_Lw_law_377 : decode b_Lw_law 377 = .ok (.goto 842, 3) := by decide +kernel
theorem d_Lw_law_380 : decode b_Lw_law 380 = .ok (.aload_n 1, 1) := by decide +kernel
theorem d_Lw_law_381 : decode b_Lw_law 381 = .ok (.aload_n 0, 1) := by decide +kernel
theorem d_Lw_law_382 : decode b_Lw_law 382 = .ok (.iload 4, 2) := by decide +kernel
theorem d_Lw_law_384 : decode b_Lw_law 384 = .ok (.iconst 1, 1) := by decide +kernel
theorem d_Lw_law_385 : decode b_Lw_law 385 = .ok (.iadd, 1) := by decide +kernel
theorem d_Lw_law_386 : decode b_Lw_law 386 = .ok (.iaload, 1) := by decide +kernel
theorem d_Lw_law_387 : decode b_Lw_law 387 = .ok (.aload_n 0, 1) := by decide +kernel
theorem d_Lw_law_388 : decode b_Lw_law 388 = .ok (.iload 4, 2) := by decide +kernel
theorem d_Lw_law_390 : decode b_Lw_law 390 = .ok (.iconst 2, 1) := by decide +kernel
theorem d_Lw_law_391 : decode b_Lw_law 391 = .ok (.iadd, 1) := by decide +kernel
theorem d_Lw_law_392 : decode b_Lw_law 392 = .ok (.iaload, 1) := by decide +kernel
theorem d_Lw_law_393 : decode b_Lw_law 393 = .ok (.aload_n 3, 1) := by decide +kernel
theorem d_Lw_law_394 : decode b_Lw_law 394 = .ok (.invokestatic 85, 3) := by decide +kernel
theorem d_Lw_law_397 : decode b_Lw_law 397 = .ok (.istore 5, 2) := by decide +kernel
theorem d_Lw_law_399 : decode b_Lw_law 399 = .ok (.aload_n 2, 1) := by decide +kernel
theorem d_Lw_law_400 : decode b_Lw_law 400 = .ok (.aload_n 0, 1) := by decide +kernel
theorem d_Lw_law_401 : decode b_Lw_law 401 = .ok (.iload 4, 2) := by decide +kernel
theorem d_Lw_law_403 : decode b_Lw_law 403 = .ok (.iconst 1, 1) := by decide +kernel
theorem d_Lw_law_404 : decode b_Lw_law 404 = .ok (.iadd, 1) := by decide +kernel
theorem d_Lw_law_405 : decode b_Lw_law 405 = .ok (.iaload, 1) := by decide +kernel
theorem d_Lw_law_406 : decode b_Lw_law 406 = .ok (.aload_n 0, 1) := by decide +kernel
theorem d_Lw_law_407 : decode b_Lw_law 407 = .ok (.iload 4, 2) := by decide +kernel
theorem d_Lw_law_409 : decode b_Lw_law 409 = .ok (.iconst 2, 1) := by decide +kernel
theorem d_Lw_law_410 : decode b_Lw_law 410 = .ok (.iadd, 1) := by decide +kernel
theorem d_Lw_law_411 : decode b_Lw_law 411 = .ok (.iaload, 1) := by decide +kernel
theorem d_Lw_law_412 : decode b_Lw_law 412 = .ok (.invokevirtual 87, 3) := by decide +kernel
theorem d_Lw_law_415 : decode b_Lw_law 415 = .ok (.istore 6, 2) := by decide +kernel
theorem d_Lw_law_417 : decode b_Lw_law 417 = .ok (.aload_n 2, 1) := by decide +kernel
theorem d_Lw_law_418 : decode b_Lw_law 418 = .ok (.invokevirtual 74, 3) := by decide +kernel
theorem d_Lw_law_421 : decode b_Lw_law 421 = .ok (.iload 5, 2) := by decide +kernel
theorem d_Lw_law_423 : decode b_Lw_law 423 = .ok (.if_icmp .eq 5, 3) := by decide +kernel
theorem d_Lw_law_426 : decode b_Lw_law 426 = .ok (.iconst 0, 1) := by decide +kernel
theorem d_Lw_law_427 : decode b_Lw_law 427 = .ok (.ireturn, 1) := by decide +kernel
theorem d_Lw_law_428 : decode b_Lw_law 428 = .ok (.iload 5, 2) := by decide +kernel
theorem d_Lw_law_430 : decode b_Lw_law 430 = .ok (.ifCond .ne 15, 3) := by decide +kernel
theorem d_Lw_law_433 : decode b_Lw_law 433 = .ok (.aload_n 3, 1) := by decide +kernel
theorem d_Lw_law_434 : decode b_Lw_law 434 = .ok (.iconst 0, 1) := by decide +kernel
theorem d_Lw_law_435 : decode b_Lw_law 435 = .ok (.laload, 1) := by decide +kernel
theorem d_Lw_law_436 : decode b_Lw_law 436 = .ok (.iload 6, 2) := by decide +kernel
theorem d_Lw_law_438 : decode b_Lw_law 438 = .ok (.i2l, 1) := by decide +kernel
theorem d_Lw_law_439 : decode b_Lw_law 439 = .ok (.lcmp, 1) := by decide +kernel
theorem d_Lw_law_440 : decode b_Lw_law 440 = .ok (.ifCond .eq 5, 3) := by decide +kernel
theorem d_Lw_law_443 : decode b_Lw_law 443 = .ok (.iconst 0, 1) := by decide +kernel
theorem d_Lw_law_444 : decode b_Lw_law 444 = .ok (.ireturn, 1) := by decide +kernel
theorem d_Lw_law_445 : decode b_Lw_law 445 = .ok (.goto 774, 3) := by decide +kernel
theorem d_Lw_law_448 : decode b_Lw_law 448 = .ok (.aload_n 1, 1) := by decide +kernel
theorem d_Lw_law_449 : decode b_Lw_law 449 = .ok (.aload_n 0, 1) := by decide +kernel
theorem d_Lw_law_450 : decode b_Lw_law 450 = .ok (.iload 4, 2) := by decide +kernel
theorem d_Lw_law_452 : decode b_Lw_law 452 = .ok (.iconst 1, 1) := by decide +kernel
theorem d_Lw_law_453 : decode b_Lw_law 453 = .ok (.iadd, 1) := by decide +kernel
theorem d_Lw_law_454 : decode b_Lw_law 454 = .ok (.iaload, 1) := by decide +kernel
theorem d_Lw_law_455 : decode b_Lw_law 455 = .ok (.aload_n 0, 1) := by decide +kernel
theorem d_Lw_law_456 : decode b_Lw_law 456 = .ok (.iload 4, 2) := by decide +kernel
theorem d_Lw_law_458 : decode b_Lw_law 458 = .ok (.iconst 2, 1) := by decide +kernel
theorem d_Lw_law_459 : decode b_Lw_law 459 = .ok (.iadd, 1) := by decide +kernel
theorem d_Lw_law_460 : decode b_Lw_law 460 = .ok (.iaload, 1) := by decide +kernel
theorem d_Lw_law_461 : decode b_Lw_law 461 = .ok (.aload_n 3, 1) := by decide +kernel
theorem d_Lw_law_462 : decode b_Lw_law 462 = .ok (.invokestatic 88, 3) := by decide +kernel
theorem d_Lw_law_465 : decode b_Lw_law 465 = .ok (.istore 5, 2) := by decide +kernel
theorem d_Lw_law_467 : decode b_Lw_law 467 = .ok (.aload_n 2, 1) := by decide +kernel
theorem d_Lw_law_468 : decode b_Lw_law 468 = .ok (.aload_n 0, 1) := by decide +kernel
theorem d_Lw_law_469 : decode b_Lw_law 469 = .ok (.iload 4, 2) := by decide +kernel
theorem d_Lw_law_471 : decode b_Lw_law 471 = .ok (.iconst 1, 1) := by decide +kernel
theorem d_Lw_law_472 : decode b_Lw_law 472 = .ok (.iadd, 1) := by decide +kernel
theorem d_Lw_law_473 : decode b_Lw_law 473 = .ok (.iaload, 1) := by decide +kernel
theorem d_Lw_law_474 : decode b_Lw_law 474 = .ok (.aload_n 0, 1) := by decide +kernel
theorem d_Lw_law_475 : decode b_Lw_law 475 = .ok (.iload 4, 2) := by decide +kernel
theorem d_Lw_law_477 : decode b_Lw_law 477 = .ok (.iconst 2, 1) := by decide +kernel
theorem d_Lw_law_478 : decode b_Lw_law 478 = .ok (.iadd, 1) := by decide +kernel
theorem d_Lw_law_479 : decode b_Lw_law 479 = .ok (.iaload, 1) := by decide +kernel
theorem d_Lw_law_480 : decode b_Lw_law 480 = .ok (.invokevirtual 90, 3) := by decide +kernel
theorem d_Lw_law_483 : decode b_Lw_law 483 = .ok (.istore 6, 2) := by decide +kernel
theorem d_Lw_law_485 : decode b_Lw_law 485 = .ok (.aload_n 2, 1) := by decide +kernel
theorem d_Lw_law_486 : decode b_Lw_law 486 = .ok (.invokevirtual 74, 3) := by decide +kernel
theorem d_Lw_law_489 : decode b_Lw_law 489 = .ok (.iload 5, 2) := by decide +kernel
theorem d_Lw_law_491 : decode b_Lw_law 491 = .ok (.if_icmp .eq 5, 3) := by decide +kernel
theorem d_Lw_law_494 : decode b_Lw_law 494 = .ok (.iconst 0, 1) := by decide +kernel
theorem d_Lw_law_495 : decode b_Lw_law 495 = .ok (.ireturn, 1) := by decide +kernel
theorem d_Lw_law_496 : decode b_Lw_law 496 = .ok (.iload 5, 2) := by decide +kernel
theorem d_Lw_law_498 : decode b_Lw_law 498 = .ok (.ifCond .ne 15, 3) := by decide +kernel
theorem d_Lw_law_501 : decode b_Lw_law 501 = .ok (.aload_n 3, 1) := by decide +kernel
theorem d_Lw_law_502 : decode b_Lw_law 502 = .ok (.iconst 0, 1) := by decide +kernel
theorem d_Lw_law_503 : decode b_Lw_law 503 = .ok (.laload, 1) := by decide +kernel
theorem d_Lw_law_504 : decode b_Lw_law 504 = .ok (.iload 6, 2) := by decide +kernel
theorem d_Lw_law_506 : decode b_Lw_law 506 = .ok (.i2l, 1) := by decide +kernel
theorem d_Lw_law_507 : decode b_Lw_law 507 = .ok (.lcmp, 1) := by decide +kernel
theorem d_Lw_law_508 : decode b_Lw_law 508 = .ok (.ifCond .eq 5, 3) := by decide +kernel
theorem d_Lw_law_511 : decode b_Lw_law 511 = .ok (.iconst 0, 1) := by decide +kernel
theorem d_Lw_law_512 : decode b_Lw_law 512 = .ok (.ireturn, 1) := by decide +kernel
theorem d_Lw_law_513 : decode b_Lw_law 513 = .ok (.goto 706, 3) := by decide +kernel
theorem d_Lw_law_516 : decode b_Lw_law 516 = .ok (.aload_n 1, 1) := by decide +kernel
theorem d_Lw_law_517 : decode b_Lw_law 517 = .ok (.aload_n 0, 1) := by decide +kernel
theorem d_Lw_law_518 : decode b_Lw_law 518 = .ok (.iload 4, 2) := by decide +kernel
theorem d_Lw_law_520 : decode b_Lw_law 520 = .ok (.iconst 1, 1) := by decide +kernel
theorem d_Lw_law_521 : decode b_Lw_law 521 = .ok (.iadd, 1) := by decide +kernel
theorem d_Lw_law_522 : decode b_Lw_law 522 = .ok (.iaload, 1) := by decide +kernel
theorem d_Lw_law_523 : decode b_Lw_law 523 = .ok (.aload_n 0, 1) := by decide +kernel
theorem d_Lw_law_524 : decode b_Lw_law 524 = .ok (.iload 4, 2) := by decide +kernel
theorem d_Lw_law_526 : decode b_Lw_law 526 = .ok (.iconst 2, 1) := by decide +kernel
theorem d_Lw_law_527 : decode b_Lw_law 527 = .ok (.iadd, 1) := by decide +kernel
theorem d_Lw_law_528 : decode b_Lw_law 528 = .ok (.iaload, 1) := by decide +kernel
theorem d_Lw_law_529 : decode b_Lw_law 529 = .ok (.ifCond .eq 7, 3) := by decide +kernel
theorem d_Lw_law_532 : decode b_Lw_law 532 = .ok (.iconst 1, 1) := by decide +kernel
theorem d_Lw_law_533 : decode b_Lw_law 533 = .ok (.goto 4, 3) := by decide +kernel
theorem d_Lw_law_536 : decode b_Lw_law 536 = .ok (.iconst 0, 1) := by decide +kernel
theorem d_Lw_law_537 : decode b_Lw_law 537 = .ok (.aload_n 3, 1) := by decide +kernel
theorem d_Lw_law_538 : decode b_Lw_law 538 = .ok (.invokestatic 91, 3) := by decide +kernel
theorem d_Lw_law_541 : decode b_Lw_law 541 = .ok (.istore 5, 2) := by decide +kernel
theorem d_Lw_law_543 : decode b_Lw_law 543 = .ok (.aload_n 2, 1) := by decide +kernel
theorem d_Lw_law_544 : decode b_Lw_law 544 = .ok (.aload_n 0, 1) := by decide +kernel
theorem d_Lw_law_545 : decode b_Lw_law 545 = .ok (.iload 4, 2) := by decide +kernel
theorem d_Lw_law_547 : decode b_Lw_law 547 = .ok (.iconst 1, 1) := by decide +kernel
theorem d_Lw_law_548 : decode b_Lw_law 548 = .ok (.iadd, 1) := by decide +kernel
theorem d_Lw_law_549 : decode b_Lw_law 549 = .ok (.iaload, 1) := by decide +kernel
theorem d_Lw_law_550 : decode b_Lw_law 550 = .ok (.aload_n 0, 1) := by decide +kernel
theorem d_Lw_law_551 : decode b_Lw_law 551 = .ok (.iload 4, 2) := by decide +kernel
theorem d_Lw_law_553 : decode b_Lw_law 553 = .ok (.iconst 2, 1) := by decide +kernel
theorem d_Lw_law_554 : decode b_Lw_law 554 = .ok (.iadd, 1) := by decide +kernel
theorem d_Lw_law_555 : decode b_Lw_law 555 = .ok (.iaload, 1) := by decide +kernel
theorem d_Lw_law_556 : decode b_Lw_law 556 = .ok (.ifCond .eq 7, 3) := by decide +kernel
theorem d_Lw_law_559 : decode b_Lw_law 559 = .ok (.iconst 1, 1) := by decide +kernel
theorem d_Lw_law_560 : decode b_Lw_law 560 = .ok (.goto 4, 3) := by decide +kernel
theorem d_Lw_law_563 : decode b_Lw_law 563 = .ok (.iconst 0, 1) := by decide +kernel
theorem d_Lw_law_564 : decode b_Lw_law 564 = .ok (.invokevirtual 94, 3) := by decide +kernel
theorem d_Lw_law_567 : decode b_Lw_law 567 = .ok (.istore 6, 2) := by decide +kernel
theorem d_Lw_law_569 : decode b_Lw_law 569 = .ok (.aload_n 2, 1) := by decide +kernel
theorem d_Lw_law_570 : decode b_Lw_law 570 = .ok (.invokevirtual 74, 3) := by decide +kernel
theorem d_Lw_law_573 : decode b_Lw_law 573 = .ok (.iload 5, 2) := by decide +kernel
theorem d_Lw_law_575 : decode b_Lw_law 575 = .ok (.if_icmp .eq 5, 3) := by decide +kernel
theorem d_Lw_law_578 : decode b_Lw_law 578 = .ok (.iconst 0, 1) := by decide +kernel
theorem d_Lw_law_579 : decode b_Lw_law 579 = .ok (.ireturn, 1) := by decide +kernel
theorem d_Lw_law_580 : decode b_Lw_law 580 = .ok (.iload 5, 2) := by decide +kernel
theorem d_Lw_law_582 : decode b_Lw_law 582 = .ok (.ifCond .ne 22, 3) := by decide +kernel
theorem d_Lw_law_585 : decode b_Lw_law 585 = .ok (.aload_n 3, 1) := by decide +kernel
theorem d_Lw_law_586 : decode b_Lw_law 586 = .ok (.iconst 0, 1) := by decide +kernel
theorem d_Lw_law_587 : decode b_Lw_law 587 = .ok (.laload, 1) := by decide +kernel
theorem d_Lw_law_588 : decode b_Lw_law 588 = .ok (.iload 6, 2) := by decide +kernel
theorem d_Lw_law_590 : decode b_Lw_law 590 = .ok (.ifCond .eq 7, 3) := by decide +kernel
theorem d_Lw_law_593 : decode b_Lw_law 593 = .ok (.lconst 1, 1) := by decide +kernel
theorem d_Lw_law_594 : decode b_Lw_law 594 = .ok (.goto 4, 3) := by decide +kernel
theorem d_Lw_law_597 : decode b_Lw_law 597 = .ok (.lconst 0, 1) := by decide +kernel
theorem d_Lw_law_598 : decode b_Lw_law 598 = .ok (.lcmp, 1) := by decide +kernel
theorem d_Lw_law_599 : decode b_Lw_law 599 = .ok (.ifCond .eq 5, 3) := by decide +kernel
theorem d_Lw_law_602 : decode b_Lw_law 602 = .ok (.iconst 0, 1) := by decide +kernel
theorem d_Lw_law_603 : decode b_Lw_law 603 = .ok (.ireturn, 1) := by decide +kernel
theorem d_Lw_law_604 : decode b_Lw_law 604 = .ok (.goto 615, 3) := by decide +kernel
theorem d_Lw_law_607 : decode b_Lw_law 607 = .ok (.aload_n 1, 1) := by decide +kernel
theorem d_Lw_law_608 : decode b_Lw_law 608 = .ok (.aload_n 0, 1) := by decide +kernel
theorem d_Lw_law_609 : decode b_Lw_law 609 = .ok (.iload 4, 2) := by decide +kernel
theorem d_Lw_law_611 : decode b_Lw_law 611 = .ok (.iconst 1, 1) := by decide +kernel
theorem d_Lw_law_612 : decode b_Lw_law 612 = .ok (.iadd, 1) := by decide +kernel
theorem d_Lw_law_613 : decode b_Lw_law 613 = .ok (.iaload, 1) := by decide +kernel
theorem d_Lw_law_614 : decode b_Lw_law 614 = .ok (.aload_n 0, 1) := by decide +kernel
theorem d_Lw_law_615 : decode b_Lw_law 615 = .ok (.iload 4, 2) := by decide +kernel
theorem d_Lw_law_617 : decode b_Lw_law 617 = .ok (.iconst 2, 1) := by decide +kernel
theorem d_Lw_law_618 : decode b_Lw_law 618 = .ok (.iadd, 1) := by decide +kernel
theorem d_Lw_law_619 : decode b_Lw_law 619 = .ok (.iaload, 1) := by decide +kernel
theorem d_Lw_law_620 : decode b_Lw_law 620 = .ok (.aload_n 0, 1) := by decide +kernel
theorem d_Lw_law_621 : decode b_Lw_law 621 = .ok (.iload 4, 2) := by decide +kernel
theorem d_Lw_law_623 : decode b_Lw_law 623 = .ok (.iconst 3, 1) := by decide +kernel
theorem d_Lw_law_624 : decode b_Lw_law 624 = .ok (.iadd, 1) := by decide +kernel
theorem d_Lw_law_625 : decode b_Lw_law 625 = .ok (.iaload, 1) := by decide +kernel
theorem d_Lw_law_626 : decode b_Lw_law 626 = .ok (.invokestatic 95, 3) := by decide +kernel
theorem d_Lw_law_629 : decode b_Lw_law 629 = .ok (.istore 5, 2) := by decide +kernel
theorem d_Lw_law_631 : decode b_Lw_law 631 = .ok (.aload_n 2, 1) := by decide +kernel
theorem d_Lw_law_632 : decode b_Lw_law 632 = .ok (.aload_n 0, 1) := by decide +kernel
theorem d_Lw_law_633 : decode b_Lw_law 633 = .ok (.iload 4, 2) := by decide +kernel
theorem d_Lw_law_635 : decode b_Lw_law 635 = .ok (.iconst 1, 1) := by decide +kernel
theorem d_Lw_law_636 : decode b_Lw_law 636 = .ok (.iadd, 1) := by decide +kernel
theorem d_Lw_law_637 : decode b_Lw_law 637 = .ok (.iaload, 1) := by decide +kernel
theorem d_Lw_law_638 : decode b_Lw_law 638 = .ok (.aload_n 0, 1) := by decide +kernel
theorem d_Lw_law_639 : decode b_Lw_law 639 = .ok (.iload 4, 2) := by decide +kernel
theorem d_Lw_law_641 : decode b_Lw_law 641 = .ok (.iconst 2, 1) := by decide +kernel
theorem d_Lw_law_642 : decode b_Lw_law 642 = .ok (.iadd, 1) := by decide +kernel
theorem d_Lw_law_643 : decode b_Lw_law 643 = .ok (.iaload, 1) := by decide +kernel
theorem d_Lw_law_644 : decode b_Lw_law 644 = .ok (.aload_n 0, 1) := by decide +kernel
theorem d_Lw_law_645 : decode b_Lw_law 645 = .ok (.iload 4, 2) := by decide +kernel
theorem d_Lw_law_647 : decode b_Lw_law 647 = .ok (.iconst 3, 1) := by decide +kernel
theorem d_Lw_law_648 : decode b_Lw_law 648 = .ok (.iadd, 1) := by decide +kernel
theorem d_Lw_law_649 : decode b_Lw_law 649 = .ok (.iaload, 1) := by decide +kernel
theorem d_Lw_law_650 : decode b_Lw_law 650 = .ok (.invokevirtual 98, 3) := by decide +kernel
theorem d_Lw_law_653 : decode b_Lw_law 653 = .ok (.aload_n 2, 1) := by decide +kernel
theorem d_Lw_law_654 : decode b_Lw_law 654 = .ok (.invokevirtual 74, 3) := by decide +kernel
theorem d_Lw_law_657 : decode b_Lw_law 657 = .ok (.iload 5, 2) := by decide +kernel
theorem d_Lw_law_659 : decode b_Lw_law 659 = .ok (.if_icmp .eq 5, 3) := by decide +kernel
theorem d_Lw_law_662 : decode b_Lw_law 662 = .ok (.iconst 0, 1) := by decide +kernel
theorem d_Lw_law_663 : decode b_Lw_law 663 = .ok (.ireturn, 1) := by decide +kernel
theorem d_Lw_law_664 : decode b_Lw_law 664 = .ok (.goto 555, 3) := by decide +kernel
theorem d_Lw_law_667 : decode b_Lw_law 667 = .ok (.aload_n 1, 1) := by decide +kernel
theorem d_Lw_law_668 : decode b_Lw_law 668 = .ok (.aload_n 0, 1) := by decide +kernel
theorem d_Lw_law_669 : decode b_Lw_law 669 = .ok (.iload 4, 2) := by decide +kernel
theorem d_Lw_law_671 : decode b_Lw_law 671 = .ok (.iconst 1, 1) := by decide +kernel
theorem d_Lw_law_672 : decode b_Lw_law 672 = .ok (.iadd, 1) := by decide +kernel
theorem d_Lw_law_673 : decode b_Lw_law 673 = .ok (.iaload, 1) := by decide +kernel
theorem d_Lw_law_674 : decode b_Lw_law 674 = .ok (.aload_n 3, 1) := by decide +kernel
theorem d_Lw_law_675 : decode b_Lw_law 675 = .ok (.invokestatic 99, 3) := by decide +kernel
theorem d_Lw_law_678 : decode b_Lw_law 678 = .ok (.istore 5, 2) := by decide +kernel
theorem d_Lw_law_680 : decode b_Lw_law 680 = .ok (.aload_n 2, 1) := by decide +kernel
theorem d_Lw_law_681 : decode b_Lw_law 681 = .ok (.aload_n 0, 1) := by decide +kernel
theorem d_Lw_law_682 : decode b_Lw_law 682 = .ok (.iload 4, 2) := by decide +kernel
theorem d_Lw_law_684 : decode b_Lw_law 684 = .ok (.iconst 1, 1) := by decide +kernel
theorem d_Lw_law_685 : decode b_Lw_law 685 = .ok (.iadd, 1) := by decide +kernel
theorem d_Lw_law_686 : decode b_Lw_law 686 = .ok (.iaload, 1) := by decide +kernel
theorem d_Lw_law_687 : decode b_Lw_law 687 = .ok (.invokevirtual 102, 3) := by decide +kernel
theorem d_Lw_law_690 : decode b_Lw_law 690 = .ok (.istore 6, 2) := by decide +kernel
theorem d_Lw_law_692 : decode b_Lw_law 692 = .ok (.aload_n 2, 1) := by decide +kernel
theorem d_Lw_law_693 : decode b_Lw_law 693 = .ok (.invokevirtual 74, 3) := by decide +kernel
theorem d_Lw_law_696 : decode b_Lw_law 696 = .ok (.iload 5, 2) := by decide +kernel
theorem d_Lw_law_698 : decode b_Lw_law 698 = .ok (.if_icmp .eq 5, 3) := by decide +kernel
theorem d_Lw_law_701 : decode b_Lw_law 701 = .ok (.iconst 0, 1) := by decide +kernel
theorem d_Lw_law_702 : decode b_Lw_law 702 = .ok (.ireturn, 1) := by decide +kernel
theorem d_Lw_law_703 : decode b_Lw_law 703 = .ok (.iload 5, 2) := by decide +kernel
theorem d_Lw_law_705 : decode b_Lw_law 705 = .ok (.ifCond .ne 15, 3) := by decide +kernel
theorem d_Lw_law_708 : decode b_Lw_law 708 = .ok (.aload_n 3, 1) := by decide +kernel
theorem d_Lw_law_709 : decode b_Lw_law 709 = .ok (.iconst 0, 1) := by decide +kernel
theorem d_Lw_law_710 : decode b_Lw_law 710 = .ok (.laload, 1) := by decide +kernel
theorem d_Lw_law_711 : decode b_Lw_law 711 = .ok (.iload 6, 2) := by decide +kernel
theorem d_Lw_law_713 : decode b_Lw_law 713 = .ok (.i2l, 1) := by decide +kernel
theorem d_Lw_law_714 : decode b_Lw_law 714 = .ok (.lcmp, 1) := by decide +kernel
theorem d_Lw_law_715 : decode b_Lw_law 715 = .ok (.ifCond .eq 5, 3) := by decide +kernel
theorem d_Lw_law_718 : decode b_Lw_law 718 = .ok (.iconst 0, 1) := by decide +kernel
theorem d_Lw_law_719 : decode b_Lw_law 719 = .ok (.ireturn, 1) := by decide +kernel
theorem d_Lw_law_720 : decode b_Lw_law 720 = .ok (.goto 499, 3) := by decide +kernel
theorem d_Lw_law_723 : decode b_Lw_law 723 = .ok (.aload_n 1, 1) := by decide +kernel
theorem d_Lw_law_724 : decode b_Lw_law 724 = .ok (.aload_n 0, 1) := by decide +kernel
theorem d_Lw_law_725 : decode b_Lw_law 725 = .ok (.iload 4, 2) := by decide +kernel
theorem d_Lw_law_727 : decode b_Lw_law 727 = .ok (.iconst 1, 1) := by decide +kernel
theorem d_Lw_law_728 : decode b_Lw_law 728 = .ok (.iadd, 1) := by decide +kernel
theorem d_Lw_law_729 : decode b_Lw_law 729 = .ok (.iaload, 1) := by decide +kernel
theorem d_Lw_law_730 : decode b_Lw_law 730 = .ok (.aload_n 3, 1) := by decide +kernel
theorem d_Lw_law_731 : decode b_Lw_law 731 = .ok (.invokestatic 103, 3) := by decide +kernel
theorem d_Lw_law_734 : decode b_Lw_law 734 = .ok (.istore 5, 2) := by decide +kernel
theorem d_Lw_law_736 : decode b_Lw_law 736 = .ok (.aload_n 2, 1) := by decide +kernel
theorem d_Lw_law_737 : decode b_Lw_law 737 = .ok (.aload_n 0, 1) := by decide +kernel
theorem d_Lw_law_738 : decode b_Lw_law 738 = .ok (.iload 4, 2) := by decide +kernel
theorem d_Lw_law_740 : decode b_Lw_law 740 = .ok (.iconst 1, 1) := by decide +kernel
theorem d_Lw_law_741 : decode b_Lw_law 741 = .ok (.iadd, 1) := by decide +kernel
theorem d_Lw_law_742 : decode b_Lw_law 742 = .ok (.iaload, 1) := by decide +kernel
theorem d_Lw_law_743 : decode b_Lw_law 743 = .ok (.invokevirtual 105, 3) := by decide +kernel
theorem d_Lw_law_746 : decode b_Lw_law 746 = .ok (.istore 6, 2) := by decide +kernel
theorem d_Lw_law_748 : decode b_Lw_law 748 = .ok (.aload_n 2, 1) := by decide +kernel
theorem d_Lw_law_749 : decode b_Lw_law 749 = .ok (.invokevirtual 74, 3) := by decide +kernel
theorem d_Lw_law_752 : decode b_Lw_law 752 = .ok (.iload 5, 2) := by decide +kernel
theorem d_Lw_law_754 : decode b_Lw_law 754 = .ok (.if_icmp .eq 5, 3) := by decide +kernel
theorem d_Lw_law_757 : decode b_Lw_law 757 = .ok (.iconst 0, 1) := by decide +kernel
theorem d_Lw_law_758 : decode b_Lw_law 758 = .ok (.ireturn, 1) := by decide +kernel
theorem d_Lw_law_759 : decode b_Lw_law 759 = .ok (.iload 5, 2) := by decide +kernel
theorem d_Lw_law_761 : decode b_Lw_law 761 = .ok (.ifCond .ne 15, 3) := by decide +kernel
theorem d_Lw_law_764 : decode b_Lw_law 764 = .ok (.aload_n 3, 1) := by decide +kernel
theorem d_Lw_law_765 : decode b_Lw_law 765 = .ok (.iconst 0, 1) := by decide +kernel
theorem d_Lw_law_766 : decode b_Lw_law 766 = .ok (.laload, 1) := by decide +kernel
theorem d_Lw_law_767 : decode b_Lw_law 767 = .ok (.iload 6, 2) := by decide +kernel
theorem d_Lw_law_769 : decode b_Lw_law 769 = .ok (.i2l, 1) := by decide +kernel
theorem d_Lw_law_770 : decode b_Lw_law 770 = .ok (.lcmp, 1) := by decide +kernel
theorem d_Lw_law_771 : decode b_Lw_law 771 = .ok (.ifCond .eq 5, 3) := by decide +kernel
theorem d_Lw_law_774 : decode b_Lw_law 774 = .ok (.iconst 0, 1) := by decide +kernel
theorem d_Lw_law_775 : decode b_Lw_law 775 = .ok (.ireturn, 1) := by decide +kernel
theorem d_Lw_law_776 : decode b_Lw_law 776 = .ok (.goto 443, 3) := by decide +kernel
theorem d_Lw_law_779 : decode b_Lw_law 779 = .ok (.aload_n 1, 1) := by decide +kernel
theorem d_Lw_law_780 : decode b_Lw_law 780 = .ok (.aload_n 0, 1) := by decide +kernel
theorem d_Lw_law_781 : decode b_Lw_law 781 = .ok (.iload 4, 2) := by decide +kernel
theorem d_Lw_law_783 : decode b_Lw_law 783 = .ok (.iconst 1, 1) := by decide +kernel
theorem d_Lw_law_784 : decode b_Lw_law 784 = .ok (.iadd, 1) := by decide +kernel
theorem d_Lw_law_785 : decode b_Lw_law 785 = .ok (.iaload, 1) := by decide +kernel
theorem d_Lw_law_786 : decode b_Lw_law 786 = .ok (.aload_n 3, 1) := by decide +kernel
theorem d_Lw_law_787 : decode b_Lw_law 787 = .ok (.invokestatic 106, 3) := by decide +kernel
theorem d_Lw_law_790 : decode b_Lw_law 790 = .ok (.istore 5, 2) := by decide +kernel
theorem d_Lw_law_792 : decode b_Lw_law 792 = .ok (.aload_n 2, 1) := by decide +kernel
theorem d_Lw_law_793 : decode b_Lw_law 793 = .ok (.aload_n 0, 1) := by decide +kernel
theorem d_Lw_law_794 : decode b_Lw_law 794 = .ok (.iload 4, 2) := by decide +kernel
theorem d_Lw_law_796 : decode b_Lw_law 796 = .ok (.iconst 1, 1) := by decide +kernel
theorem d_Lw_law_797 : decode b_Lw_law 797 = .ok (.iadd, 1) := by decide +kernel
theorem d_Lw_law_798 : decode b_Lw_law 798 = .ok (.iaload, 1) := by decide +kernel
theorem d_Lw_law_799 : decode b_Lw_law 799 = .ok (.invokevirtual 108, 3) := by decide +kernel
theorem d_Lw_law_802 : decode b_Lw_law 802 = .ok (.istore 6, 2) := by decide +kernel
theorem d_Lw_law_804 : decode b_Lw_law 804 = .ok (.aload_n 2, 1) := by decide +kernel
theorem d_Lw_law_805 : decode b_Lw_law 805 = .ok (.invokevirtual 74, 3) := by decide +kernel
theorem d_Lw_law_808 : decode b_Lw_law 808 = .ok (.iload 5, 2) := by decide +kernel
theorem d_Lw_law_810 : decode b_Lw_law 810 = .ok (.if_icmp .eq 5, 3) := by decide +kernel
theorem d_Lw_law_813 : decode b_Lw_law 813 = .ok (.iconst 0, 1) := by decide +kernel
theorem d_Lw_law_814 : decode b_Lw_law 814 = .ok (.ireturn, 1) := by decide +kernel
theorem d_Lw_law_815 : decode b_Lw_law 815 = .ok (.iload 5, 2) := by decide +kernel
theorem d_Lw_law_817 : decode b_Lw_law 817 = .ok (.ifCond .ne 15, 3) := by decide +kernel
theorem d_Lw_law_820 : decode b_Lw_law 820 = .ok (.aload_n 3, 1) := by decide +kernel
theorem d_Lw_law_821 : decode b_Lw_law 821 = .ok (.iconst 0, 1) := by decide +kernel
theorem d_Lw_law_822 : decode b_Lw_law 822 = .ok (.laload, 1) := by decide +kernel
theorem d_Lw_law_823 : decode b_Lw_law 823 = .ok (.iload 6, 2) := by decide +kernel
theorem d_Lw_law_825 : decode b_Lw_law 825 = .ok (.i2l, 1) := by decide +kernel
theorem d_Lw_law_826 : decode b_Lw_law 826 = .ok (.lcmp, 1) := by decide +kernel
theorem d_Lw_law_827 : decode b_Lw_law 827 = .ok (.ifCond .eq 5, 3) := by decide +kernel
theorem d_Lw_law_830 : decode b_Lw_law 830 = .ok (.iconst 0, 1) := by decide +kernel
theorem d_Lw_law_831 : decode b_Lw_law 831 = .ok (.ireturn, 1) := by decide +kernel
theorem d_Lw_law_832 : decode b_Lw_law 832 = .ok (.goto 387, 3) := by decide +kernel
theorem d_Lw_law_835 : decode b_Lw_law 835 = .ok (.aload_n 1, 1) := by decide +kernel
theorem d_Lw_law_836 : decode b_Lw_law 836 = .ok (.aload_n 0, 1) := by decide +kernel
theorem d_Lw_law_837 : decode b_Lw_law 837 = .ok (.iload 4, 2) := by decide +kernel
theorem d_Lw_law_839 : decode b_Lw_law 839 = .ok (.iconst 1, 1) := by decide +kernel
theorem d_Lw_law_840 : decode b_Lw_law 840 = .ok (.iadd, 1) := by decide +kernel
theorem d_Lw_law_841 : decode b_Lw_law 841 = .ok (.iaload, 1) := by decide +kernel
theorem d_Lw_law_842 : decode b_Lw_law 842 = .ok (.aload_n 0, 1) := by decide +kernel
theorem d_Lw_law_843 : decode b_Lw_law 843 = .ok (.iload 4, 2) := by decide +kernel
theorem d_Lw_law_845 : decode b_Lw_law 845 = .ok (.iconst 2, 1) := by decide +kernel
theorem d_Lw_law_846 : decode b_Lw_law 846 = .ok (.iadd, 1) := by decide +kernel
theorem d_Lw_law_847 : decode b_Lw_law 847 = .ok (.iaload, 1) := by decide +kernel
theorem d_Lw_law_848 : decode b_Lw_law 848 = .ok (.ifCond .eq 7, 3) := by decide +kernel
theorem d_Lw_law_851 : decode b_Lw_law 851 = .ok (.iconst 1, 1) := by decide +kernel
theorem d_Lw_law_852 : decode b_Lw_law 852 = .ok (.goto 4, 3) := by decide +kernel
theorem d_Lw_law_855 : decode b_Lw_law 855 = .ok (.iconst 0, 1) := by decide +kernel
theorem d_Lw_law_856 : decode b_Lw_law 856 = .ok (.aload_n 0, 1) := by decide +kernel
theorem d_Lw_law_857 : decode b_Lw_law 857 = .ok (.iload 4, 2) := by decide +kernel
theorem d_Lw_law_859 : decode b_Lw_law 859 = .ok (.iconst 3, 1) := by decide +kernel
theorem d_Lw_law_860 : decode b_Lw_law 860 = .ok (.iadd, 1) := by decide +kernel
theorem d_Lw_law_861 : decode b_Lw_law 861 = .ok (.iaload, 1) := by decide +kernel
theorem d_Lw_law_862 : decode b_Lw_law 862 = .ok (.aload_n 0, 1) := by decide +kernel
theorem d_Lw_law_863 : decode b_Lw_law 863 = .ok (.iload 4, 2) := by decide +kernel
theorem d_Lw_law_865 : decode b_Lw_law 865 = .ok (.iconst 4, 1) := by decide +kernel
theorem d_Lw_law_866 : decode b_Lw_law 866 = .ok (.iadd, 1) := by decide +kernel
theorem d_Lw_law_867 : decode b_Lw_law 867 = .ok (.iaload, 1) := by decide +kernel
theorem d_Lw_law_868 : decode b_Lw_law 868 = .ok (.aload_n 3, 1) := by decide +kernel
theorem d_Lw_law_869 : decode b_Lw_law 869 = .ok (.invokestatic 109, 3) := by decide +kernel
theorem d_Lw_law_872 : decode b_Lw_law 872 = .ok (.istore 5, 2) := by decide +kernel
theorem d_Lw_law_874 : decode b_Lw_law 874 = .ok (.aload_n 2, 1) := by decide +kernel
theorem d_Lw_law_875 : decode b_Lw_law 875 = .ok (.aload_n 0, 1) := by decide +kernel
theorem d_Lw_law_876 : decode b_Lw_law 876 = .ok (.iload 4, 2) := by decide +kernel
theorem d_Lw_law_878 : decode b_Lw_law 878 = .ok (.iconst 1, 1) := by decide +kernel
theorem d_Lw_law_879 : decode b_Lw_law 879 = .ok (.iadd, 1) := by decide +kernel
theorem d_Lw_law_880 : decode b_Lw_law 880 = .ok (.iaload, 1) := by decide +kernel
theorem d_Lw_law_881 : decode b_Lw_law 881 = .ok (.aload_n 0, 1) := by decide +kernel
theorem d_Lw_law_882 : decode b_Lw_law 882 = .ok (.iload 4, 2) := by decide +kernel
theorem d_Lw_law_884 : decode b_Lw_law 884 = .ok (.iconst 2, 1) := by decide +kernel
theorem d_Lw_law_885 : decode b_Lw_law 885 = .ok (.iadd, 1) := by decide +kernel
theorem d_Lw_law_886 : decode b_Lw_law 886 = .ok (.iaload, 1) := by decide +kernel
theorem d_Lw_law_887 : decode b_Lw_law 887 = .ok (.ifCond .eq 7, 3) := by decide +kernel
theorem d_Lw_law_890 : decode b_Lw_law 890 = .ok (.iconst 1, 1) := by decide +kernel
theorem d_Lw_law_891 : decode b_Lw_law 891 = .ok (.goto 4, 3) := by decide +kernel
theorem d_Lw_law_894 : decode b_Lw_law 894 = .ok (.iconst 0, 1) := by decide +kernel
theorem d_Lw_law_895 : decode b_Lw_law 895 = .ok (.aload_n 0, 1) := by decide +kernel
theorem d_Lw_law_896 : decode b_Lw_law 896 = .ok (.iload 4, 2) := by decide +kernel
theorem d_Lw_law_898 : decode b_Lw_law 898 = .ok (.iconst 3, 1) := by decide +kernel
theorem d_Lw_law_899 : decode b_Lw_law 899 = .ok (.iadd, 1) := by decide +kernel
theorem d_Lw_law_900 : decode b_Lw_law 900 = .ok (.iaload, 1) := by decide +kernel
theorem d_Lw_law_901 : decode b_Lw_law 901 = .ok (.aload_n 0, 1) := by decide +kernel
theorem d_Lw_law_902 : decode b_Lw_law 902 = .ok (.iload 4, 2) := by decide +kernel
theorem d_Lw_law_904 : decode b_Lw_law 904 = .ok (.iconst 4, 1) := by decide +kernel
theorem d_Lw_law_905 : decode b_Lw_law 905 = .ok (.iadd, 1) := by decide +kernel
theorem d_Lw_law_906 : decode b_Lw_law 906 = .ok (.iaload, 1) := by decide +kernel
theorem d_Lw_law_907 : decode b_Lw_law 907 = .ok (.invokevirtual 112, 3) := by decide +kernel
theorem d_Lw_law_910 : decode b_Lw_law 910 = .ok (.istore 6, 2) := by decide +kernel
theorem d_Lw_law_912 : decode b_Lw_law 912 = .ok (.aload_n 2, 1) := by decide +kernel
theorem d_Lw_law_913 : decode b_Lw_law 913 = .ok (.invokevirtual 74, 3) := by decide +kernel
theorem d_Lw_law_916 : decode b_Lw_law 916 = .ok (.iload 5, 2) := by decide +kernel
theorem d_Lw_law_918 : decode b_Lw_law 918 = .ok (.if_icmp .eq 5, 3) := by decide +kernel
theorem d_Lw_law_921 : decode b_Lw_law 921 = .ok (.iconst 0, 1) := by decide +kernel
theorem d_Lw_law_922 : decode b_Lw_law 922 = .ok (.ireturn, 1) := by decide +kernel
theorem d_Lw_law_923 : decode b_Lw_law 923 = .ok (.iload 5, 2) := by decide +kernel
theorem d_Lw_law_925 : decode b_Lw_law 925 = .ok (.ifCond .ne 15, 3) := by decide +kernel
theorem d_Lw_law_928 : decode b_Lw_law 928 = .ok (.aload_n 3, 1) := by decide +kernel
theorem d_Lw_law_929 : decode b_Lw_law 929 = .ok (.iconst 0, 1) := by decide +kernel
theorem d_Lw_law_930 : decode b_Lw_law 930 = .ok (.laload, 1) := by decide +kernel
theorem d_Lw_law_931 : decode b_Lw_law 931 = .ok (.iload 6, 2) := by decide +kernel
theorem d_Lw_law_933 : decode b_Lw_law 933 = .ok (.i2l, 1) := by decide +kernel
theorem d_Lw_law_934 : decode b_Lw_law 934 = .ok (.lcmp, 1) := by decide +kernel
theorem d_Lw_law_935 : decode b_Lw_law 935 = .ok (.ifCond .eq 5, 3) := by decide +kernel
theorem d_Lw_law_938 : decode b_Lw_law 938 = .ok (.iconst 0, 1) := by decide +kernel
theorem d_Lw_law_939 : decode b_Lw_law 939 = .ok (.ireturn, 1) := by decide +kernel
theorem d_Lw_law_940 : decode b_Lw_law 940 = .ok (.goto 279, 3) := by decide +kernel
theorem d_Lw_law_943 : decode b_Lw_law 943 = .ok (.aload_n 1, 1) := by decide +kernel
theorem d_Lw_law_944 : decode b_Lw_law 944 = .ok (.aload_n 0, 1) := by decide +kernel
theorem d_Lw_law_945 : decode b_Lw_law 945 = .ok (.iload 4, 2) := by decide +kernel
theorem d_Lw_law_947 : decode b_Lw_law 947 = .ok (.iconst 1, 1) := by decide +kernel
theorem d_Lw_law_948 : decode b_Lw_law 948 = .ok (.iadd, 1) := by decide +kernel
theorem d_Lw_law_949 : decode b_Lw_law 949 = .ok (.iaload, 1) := by decide +kernel
theorem d_Lw_law_950 : decode b_Lw_law 950 = .ok (.aload_n 0, 1) := by decide +kernel
theorem d_Lw_law_951 : decode b_Lw_law 951 = .ok (.iload 4, 2) := by decide +kernel
theorem d_Lw_law_953 : decode b_Lw_law 953 = .ok (.iconst 2, 1) := by decide +kernel
theorem d_Lw_law_954 : decode b_Lw_law 954 = .ok (.iadd, 1) := by decide +kernel
theorem d_Lw_law_955 : decode b_Lw_law 955 = .ok (.iaload, 1) := by decide +kernel
theorem d_Lw_law_956 : decode b_Lw_law 956 = .ok (.aload_n 3, 1) := by decide +kernel
theorem d_Lw_law_957 : decode b_Lw_law 957 = .ok (.invokestatic 113, 3) := by decide +kernel
theorem d_Lw_law_960 : decode b_Lw_law 960 = .ok (.istore 5, 2) := by decide +kernel
theorem d_Lw_law_962 : decode b_Lw_law 962 = .ok (.aload_n 2, 1) := by decide +kernel
theorem d_Lw_law_963 : decode b_Lw_law 963 = .ok (.aload_n 0, 1) := by decide +kernel
theorem d_Lw_law_964 : decode b_Lw_law 964 = .ok (.iload 4, 2) := by decide +kernel
theorem d_Lw_law_966 : decode b_Lw_law 966 = .ok (.iconst 1, 1) := by decide +kernel
theorem d_Lw_law_967 : decode b_Lw_law 967 = .ok (.iadd, 1) := by decide +kernel
theorem d_Lw_law_968 : decode b_Lw_law 968 = .ok (.iaload, 1) := by decide +kernel
theorem d_Lw_law_969 : decode b_Lw_law 969 = .ok (.aload_n 0, 1) := by decide +kernel
theorem d_Lw_law_970 : decode b_Lw_law 970 = .ok (.iload 4, 2) := by decide +kernel
theorem d_Lw_law_972 : decode b_Lw_law 972 = .ok (.iconst 2, 1) := by decide +kernel
theorem d_Lw_law_973 : decode b_Lw_law 973 = .ok (.iadd, 1) := by decide +kernel
theorem d_Lw_law_974 : decode b_Lw_law 974 = .ok (.iaload, 1) := by decide +kernel
theorem d_Lw_law_975 : decode b_Lw_law 975 = .ok (.invokevirtual 115, 3) := by decide +kernel
theorem d_Lw_law_978 : decode b_Lw_law 978 = .ok (.istore 6, 2) := by decide +kernel
theorem d_Lw_law_980 : decode b_Lw_law 980 = .ok (.aload_n 2, 1) := by decide +kernel
theorem d_Lw_law_981 : decode b_Lw_law 981 = .ok (.invokevirtual 74, 3) := by decide +kernel
theorem d_Lw_law_984 : decode b_Lw_law 984 = .ok (.iload 5, 2) := by decide +kernel
theorem d_Lw_law_986 : decode b_Lw_law 986 = .ok (.if_icmp .eq 5, 3) := by decide +kernel
theorem d_Lw_law_989 : decode b_Lw_law 989 = .ok (.iconst 0, 1) := by decide +kernel
theorem d_Lw_law_990 : decode b_Lw_law 990 = .ok (.ireturn, 1) := by decide +kernel
theorem d_Lw_law_991 : decode b_Lw_law 991 = .ok (.iload 5, 2) := by decide +kernel
theorem d_Lw_law_993 : decode b_Lw_law 993 = .ok (.ifCond .ne 15, 3) := by decide +kernel
theorem d_Lw_law_996 : decode b_Lw_law 996 = .ok (.aload_n 3, 1) := by decide +kernel
theorem d_Lw_law_997 : decode b_Lw_law 997 = .ok (.iconst 0, 1) := by decide +kernel
theorem d_Lw_law_998 : decode b_Lw_law 998 = .ok (.laload, 1) := by decide +kernel
theorem d_Lw_law_999 : decode b_Lw_law 999 = .ok (.iload 6, 2) := by decide +kernel
theorem d_Lw_law_1001 : decode b_Lw_law 1001 = .ok (.i2l, 1) := by decide +kernel
theorem d_Lw_law_1002 : decode b_Lw_law 1002 = .ok (.lcmp, 1) := by decide +kernel
theorem d_Lw_law_1003 : decode b_Lw_law 1003 = .ok (.ifCond .eq 5, 3) := by decide +kernel
theorem d_Lw_law_1006 : decode b_Lw_law 1006 = .ok (.iconst 0, 1) := by decide +kernel
theorem d_Lw_law_1007 : decode b_Lw_law 1007 = .ok (.ireturn, 1) := by decide +kernel
theorem d_Lw_law_1008 : decode b_Lw_law 1008 = .ok (.goto 211, 3) := by decide +kernel
theorem d_Lw_law_1011 : decode b_Lw_law 1011 = .ok (.aload_n 1, 1) := by decide +kernel
theorem d_Lw_law_1012 : decode b_Lw_law 1012 = .ok (.invokevirtual 116, 3) := by decide +kernel
theorem d_Lw_law_1015 : decode b_Lw_law 1015 = .ok (.aload_n 2, 1) := by decide +kernel
theorem d_Lw_law_1016 : decode b_Lw_law 1016 = .ok (.invokevirtual 119, 3) := by decide +kernel
theorem d_Lw_law_1019 : decode b_Lw_law 1019 = .ok (.if_icmp .eq 200, 3) := by decide +kernel
theorem d_Lw_law_1022 : decode b_Lw_law 1022 = .ok (.iconst 0, 1) := by decide +kernel
theorem d_Lw_law_1023 : decode b_Lw_law 1023 = .ok (.ireturn, 1) := by decide +kernel
theorem d_Lw_law_1024 : decode b_Lw_law 1024 = .ok (.aload_n 1, 1) := by decide +kernel
theorem d_Lw_law_1025 : decode b_Lw_law 1025 = .ok (.invokevirtual 120, 3) := by decide +kernel
theorem d_Lw_law_1028 : decode b_Lw_law 1028 = .ok (.aload_n 2, 1) := by decide +kernel
theorem d_Lw_law_1029 : decode b_Lw_law 1029 = .ok (.invokevirtual 123, 3) := by decide +kernel
theorem d_Lw_law_1032 : decode b_Lw_law 1032 = .ok (.if_icmp .eq 187, 3) := by decide +kernel
theorem d_Lw_law_1035 : decode b_Lw_law 1035 = .ok (.iconst 0, 1) := by decide +kernel
theorem d_Lw_law_1036 : decode b_Lw_law 1036 = .ok (.ireturn, 1) := by decide +kernel
theorem d_Lw_law_1037 : decode b_Lw_law 1037 = .ok (.aload_n 1, 1) := by decide +kernel
theorem d_Lw_law_1038 : decode b_Lw_law 1038 = .ok (.aload_n 0, 1) := by decide +kernel
theorem d_Lw_law_1039 : decode b_Lw_law 1039 = .ok (.iload 4, 2) := by decide +kernel
theorem d_Lw_law_1041 : decode b_Lw_law 1041 = .ok (.iconst 1, 1) := by decide +kernel
theorem d_Lw_law_1042 : decode b_Lw_law 1042 = .ok (.iadd, 1) := by decide +kernel
theorem d_Lw_law_1043 : decode b_Lw_law 1043 = .ok (.iaload, 1) := by decide +kernel
theorem d_Lw_law_1044 : decode b_Lw_law 1044 = .ok (.aload_n 3, 1) := by decide +kernel
theorem d_Lw_law_1045 : decode b_Lw_law 1045 = .ok (.invokestatic 124, 3) := by decide +kernel
theorem d_Lw_law_1048 : decode b_Lw_law 1048 = .ok (.istore 5, 2) := by decide +kernel
theorem d_Lw_law_1050 : decode b_Lw_law 1050 = .ok (.aload_n 2, 1) := by decide +kernel
theorem d_Lw_law_1051 : decode b_Lw_law 1051 = .ok (.aload_n 0, 1) := by decide +kernel
theorem d_Lw_law_1052 : decode b_Lw_law 1052 = .ok (.iload 4, 2) := by decide +kernel
theorem d_Lw_law_1054 : decode b_Lw_law 1054 = .ok (.iconst 1, 1) := by decide +kernel
theorem d_Lw_law_1055 : decode b_Lw_law 1055 = .ok (.iadd, 1) := by decide +kernel
theorem d_Lw_law_1056 : decode b_Lw_law 1056 = .ok (.iaload, 1) := by decide +kernel
theorem d_Lw_law_1057 : decode b_Lw_law 1057 = .ok (.invokevirtual 126, 3) := by decide +kernel
theorem d_Lw_law_1060 : decode b_Lw_law 1060 = .ok (.istore 6, 2) := by decide +kernel
theorem d_Lw_law_1062 : decode b_Lw_law 1062 = .ok (.aload_n 2, 1) := by decide +kernel
theorem d_Lw_law_1063 : decode b_Lw_law 1063 = .ok (.invokevirtual 74, 3) := by decide +kernel
theorem d_Lw_law_1066 : decode b_Lw_law 1066 = .ok (.iload 5, 2) := by decide +kernel
theorem d_Lw_law_1068 : decode b_Lw_law 1068 = .ok (.if_icmp .eq 5, 3) := by decide +kernel
theorem d_Lw_law_1071 : decode b_Lw_law 1071 = .ok (.iconst 0, 1) := by decide +kernel
theorem d_Lw_law_1072 : decode b_Lw_law 1072 = .ok (.ireturn, 1) := by decide +kernel
theorem d_Lw_law_1073 : decode b_Lw_law 1073 = .ok (.iload 5, 2) := by decide +kernel
theorem d_Lw_law_1075 : decode b_Lw_law 1075 = .ok (.ifCond .ne 15, 3) := by decide +kernel
theorem d_Lw_law_1078 : decode b_Lw_law 1078 = .ok (.aload_n 3, 1) := by decide +kernel
theorem d_Lw_law_1079 : decode b_Lw_law 1079 = .ok (.iconst 0, 1) := by decide +kernel
theorem d_Lw_law_1080 : decode b_Lw_law 1080 = .ok (.laload, 1) := by decide +kernel
theorem d_Lw_law_1081 : decode b_Lw_law 1081 = .ok (.iload 6, 2) := by decide +kernel
theorem d_Lw_law_1083 : decode b_Lw_law 1083 = .ok (.i2l, 1) := by decide +kernel
theorem d_Lw_law_1084 : decode b_Lw_law 1084 = .ok (.lcmp, 1) := by decide +kernel
theorem d_Lw_law_1085 : decode b_Lw_law 1085 = .ok (.ifCond .eq 5, 3) := by decide +kernel
theorem d_Lw_law_1088 : decode b_Lw_law 1088 = .ok (.iconst 0, 1) := by decide +kernel
theorem d_Lw_law_1089 : decode b_Lw_law 1089 = .ok (.ireturn, 1) := by decide +kernel
theorem d_Lw_law_1090 : decode b_Lw_law 1090 = .ok (.goto 129, 3) := by decide +kernel
theorem d_Lw_law_1093 : decode b_Lw_law 1093 = .ok (.aload_n 1, 1) := by decide +kernel
theorem d_Lw_law_1094 : decode b_Lw_law 1094 = .ok (.aload_n 0, 1) := by decide +kernel
theorem d_Lw_law_1095 : decode b_Lw_law 1095 = .ok (.iload 4, 2) := by decide +kernel
theorem d_Lw_law_1097 : decode b_Lw_law 1097 = .ok (.iconst 1, 1) := by decide +kernel
theorem d_Lw_law_1098 : decode b_Lw_law 1098 = .ok (.iadd, 1) := by decide +kernel
theorem d_Lw_law_1099 : decode b_Lw_law 1099 = .ok (.iaload, 1) := by decide +kernel
theorem d_Lw_law_1100 : decode b_Lw_law 1100 = .ok (.aload_n 0, 1) := by decide +kernel
theorem d_Lw_law_1101 : decode b_Lw_law 1101 = .ok (.iload 4, 2) := by decide +kernel
theorem d_Lw_law_1103 : decode b_Lw_law 1103 = .ok (.iconst 2, 1) := by decide +kernel
theorem d_Lw_law_1104 : decode b_Lw_law 1104 = .ok (.iadd, 1) := by decide +kernel
theorem d_Lw_law_1105 : decode b_Lw_law 1105 = .ok (.iaload, 1) := by decide +kernel
theorem d_Lw_law_1106 : decode b_Lw_law 1106 = .ok (.aload_n 3, 1) := by decide +kernel
theorem d_Lw_law_1107 : decode b_Lw_law 1107 = .ok (.invokestatic 127, 3) := by decide +kernel
theorem d_Lw_law_1110 : decode b_Lw_law 1110 = .ok (.istore 5, 2) := by decide +kernel
theorem d_Lw_law_1112 : decode b_Lw_law 1112 = .ok (.aload_n 2, 1) := by decide +kernel
theorem d_Lw_law_1113 : decode b_Lw_law 1113 = .ok (.aload_n 0, 1) := by decide +kernel
theorem d_Lw_law_1114 : decode b_Lw_law 1114 = .ok (.iload 4, 2) := by decide +kernel
theorem d_Lw_law_1116 : decode b_Lw_law 1116 = .ok (.iconst 1, 1) := by decide +kernel
theorem d_Lw_law_1117 : decode b_Lw_law 1117 = .ok (.iadd, 1) := by decide +kernel
theorem d_Lw_law_1118 : decode b_Lw_law 1118 = .ok (.iaload, 1) := by decide +kernel
theorem d_Lw_law_1119 : decode b_Lw_law 1119 = .ok (.aload_n 0, 1) := by decide +kernel
theorem d_Lw_law_1120 : decode b_Lw_law 1120 = .ok (.iload 4, 2) := by decide +kernel
theorem d_Lw_law_1122 : decode b_Lw_law 1122 = .ok (.iconst 2, 1) := by decide +kernel
theorem d_Lw_law_1123 : decode b_Lw_law 1123 = .ok (.iadd, 1) := by decide +kernel
theorem d_Lw_law_1124 : decode b_Lw_law 1124 = .ok (.iaload, 1) := by decide +kernel
theorem d_Lw_law_1125 : decode b_Lw_law 1125 = .ok (.invokevirtual 129, 3) := by decide +kernel
theorem d_Lw_law_1128 : decode b_Lw_law 1128 = .ok (.istore 6, 2) := by decide +kernel
theorem d_Lw_law_1130 : decode b_Lw_law 1130 = .ok (.aload_n 2, 1) := by decide +kernel
theorem d_Lw_law_1131 : decode b_Lw_law 1131 = .ok (.invokevirtual 74, 3) := by decide +kernel
theorem d_Lw_law_1134 : decode b_Lw_law 1134 = .ok (.iload 5, 2) := by decide +kernel
theorem d_Lw_law_1136 : decode b_Lw_law 1136 = .ok (.if_icmp .eq 5, 3) := by decide +kernel
theorem d_Lw_law_1139 : decode b_Lw_law 1139 = .ok (.iconst 0, 1) := by decide +kernel
theorem d_Lw_law_1140 : decode b_Lw_law 1140 = .ok (.ireturn, 1) := by decide +kernel
theorem d_Lw_law_1141 : decode b_Lw_law 1141 = .ok (.iload 5, 2) := by decide +kernel
theorem d_Lw_law_1143 : decode b_Lw_law 1143 = .ok (.ifCond .ne 22, 3) := by decide +kernel
theorem d_Lw_law_1146 : decode b_Lw_law 1146 = .ok (.aload_n 3, 1) := by decide +kernel
theorem d_Lw_law_1147 : decode b_Lw_law 1147 = .ok (.iconst 0, 1) := by decide +kernel
theorem d_Lw_law_1148 : decode b_Lw_law 1148 = .ok (.laload, 1) := by decide +kernel
theorem d_Lw_law_1149 : decode b_Lw_law 1149 = .ok (.iload 6, 2) := by decide +kernel
theorem d_Lw_law_1151 : decode b_Lw_law 1151 = .ok (.ifCond .eq 7, 3) := by decide +kernel
theorem d_Lw_law_1154 : decode b_Lw_law 1154 = .ok (.lconst 1, 1) := by decide +kernel
theorem d_Lw_law_1155 : decode b_Lw_law 1155 = .ok (.goto 4, 3) := by decide +kernel
theorem d_Lw_law_1158 : decode b_Lw_law 1158 = .ok (.lconst 0, 1) := by decide +kernel
theorem d_Lw_law_1159 : decode b_Lw_law 1159 = .ok (.lcmp, 1) := by decide +kernel
theorem d_Lw_law_1160 : decode b_Lw_law 1160 = .ok (.ifCond .eq 5, 3) := by decide +kernel
theorem d_Lw_law_1163 : decode b_Lw_law 1163 = .ok (.iconst 0, 1) := by decide +kernel
theorem d_Lw_law_1164 : decode b_Lw_law 1164 = .ok (.ireturn, 1) := by decide +kernel
theorem d_Lw_law_1165 : decode b_Lw_law 1165 = .ok (.goto 54, 3) := by decide +kernel
theorem d_Lw_law_1168 : decode b_Lw_law 1168 = .ok (.aload_n 1, 1) := by decide +kernel
theorem d_Lw_law_1169 : decode b_Lw_law 1169 = .ok (.invokevirtual 130, 3) := by decide +kernel
theorem d_Lw_law_1172 : decode b_Lw_law 1172 = .ok (.aload_n 2, 1) := by decide +kernel
theorem d_Lw_law_1173 : decode b_Lw_law 1173 = .ok (.invokevirtual 134, 3) := by decide +kernel
theorem d_Lw_law_1176 : decode b_Lw_law 1176 = .ok (.if_icmp .eq 43, 3) := by decide +kernel
theorem d_Lw_law_1179 : decode b_Lw_law 1179 = .ok (.iconst 0, 1) := by decide +kernel
theorem d_Lw_law_1180 : decode b_Lw_law 1180 = .ok (.ireturn, 1) := by decide +kernel
theorem d_Lw_law_1181 : decode b_Lw_law 1181 = .ok (.aload_n 1, 1) := by decide +kernel
theorem d_Lw_law_1182 : decode b_Lw_law 1182 = .ok (.invokevirtual 135, 3) := by decide +kernel
theorem d_Lw_law_1185 : decode b_Lw_law 1185 = .ok (.aload_n 2, 1) := by decide +kernel
theorem d_Lw_law_1186 : decode b_Lw_law 1186 = .ok (.invokevirtual 138, 3) := by decide +kernel
theorem d_Lw_law_1189 : decode b_Lw_law 1189 = .ok (.if_icmp .eq 30, 3) := by decide +kernel
theorem d_Lw_law_1192 : decode b_Lw_law 1192 = .ok (.iconst 0, 1) := by decide +kernel
theorem d_Lw_law_1193 : decode b_Lw_law 1193 = .ok (.ireturn, 1) := by decide +kernel
theorem d_Lw_law_1194 : decode b_Lw_law 1194 = .ok (.aload_n 1, 1) := by decide +kernel
theorem d_Lw_law_1195 : decode b_Lw_law 1195 = .ok (.aload_n 0, 1) := by decide +kernel
theorem d_Lw_law_1196 : decode b_Lw_law 1196 = .ok (.iload 4, 2) := by decide +kernel
theorem d_Lw_law_1198 : decode b_Lw_law 1198 = .ok (.iconst 1, 1) := by decide +kernel
theorem d_Lw_law_1199 : decode b_Lw_law 1199 = .ok (.iadd, 1) := by decide +kernel
theorem d_Lw_law_1200 : decode b_Lw_law 1200 = .ok (.iaload, 1) := by decide +kernel
theorem d_Lw_law_1201 : decode b_Lw_law 1201 = .ok (.invokevirtual 139, 3) := by decide +kernel
theorem d_Lw_law_1204 : decode b_Lw_law 1204 = .ok (.aload_n 2, 1) := by decide +kernel
theorem d_Lw_law_1205 : decode b_Lw_law 1205 = .ok (.aload_n 0, 1) := by decide +kernel
theorem d_Lw_law_1206 : decode b_Lw_law 1206 = .ok (.iload 4, 2) := by decide +kernel
theorem d_Lw_law_1208 : decode b_Lw_law 1208 = .ok (.iconst 1, 1) := by decide +kernel
theorem d_Lw_law_1209 : decode b_Lw_law 1209 = .ok (.iadd, 1) := by decide +kernel
theorem d_Lw_law_1210 : decode b_Lw_law 1210 = .ok (.iaload, 1) := by decide +kernel
theorem d_Lw_law_1211 : decode b_Lw_law 1211 = .ok (.invokevirtual 142, 3) := by decide +kernel
theorem d_Lw_law_1214 : decode b_Lw_law 1214 = .ok (.if_icmp .eq 5, 3) := by decide +kernel
theorem d_Lw_law_1217 : decode b_Lw_law 1217 = .ok (.iconst 0, 1) := by decide +kernel
theorem d_Lw_law_1218 : decode b_Lw_law 1218 = .ok (.ireturn, 1) := by decide +kernel
theorem d_Lw_law_1219 : decode b_Lw_law 1219 = .ok (.iinc 4 5, 3) := by decide +kernel
theorem d_Lw_law_1222 : decode b_Lw_law 1222 = .ok (.goto (-1199), 3) := by decide +kernel
theorem d_Lw_law_1225 : decode b_Lw_law 1225 = .ok (.iconst 1, 1) := by decide +kernel
theorem d_Lw_law_1226 : decode b_Lw_law 1226 = .ok (.ireturn, 1) := by decide +kernel
