theorem d_Bo_init_0 : decode b_Bo_init 0 = .ok (.aload_n 0, 1) := by decide +kernel
theorem d_Bo_init_1 : decode b_Bo_init 1 = .ok (.invokespecial 3, 3) := by decide +kernel
theorem d_Bo_init_4 : decode b_Bo_init 4 = .ok (.aload_n 0, 1) := by decide +kernel
theorem d_Bo_init_5 : decode b_Bo_init 5 = .ok (.new 9, 3) := by decide +kernel
theorem d_Bo_init_8 : decode b_Bo_init 8 = .ok (.dup, 1) := by decide +kernel
theorem d_Bo_init_9 : decode b_Bo_init 9 = .ok (.bipush 16, 2) := by decide +kernel
theorem d_Bo_init_11 : decode b_Bo_init 11 = .ok (.invokespecial 11, 3) := by decide +kernel
theorem d_Bo_init_14 : decode b_Bo_init 14 = .ok (.putfield 14, 3) := by decide +kernel
theorem d_Bo_init_17 : decode b_Bo_init 17 = .ok (.aload_n 0, 1) := by decide +kernel
theorem d_Bo_init_18 : decode b_Bo_init 18 = .ok (.new 9, 3) := by decide +kernel
theorem d_Bo_init_21 : decode b_Bo_init 21 = .ok (.dup, 1) := by decide +kernel
theorem d_Bo_init_22 : decode b_Bo_init 22 = .ok (.bipush 64, 2) := by decide +kernel
theorem d_Bo_init_24 : decode b_Bo_init 24 = .ok (.invokespecial 11, 3) := by decide +kernel
theorem d_Bo_init_27 : decode b_Bo_init 27 = .ok (.putfield 20, 3) := by decide +kernel
theorem d_Bo_init_30 : decode b_Bo_init 30 = .ok (.aload_n 0, 1) := by decide +kernel
theorem d_Bo_init_31 : decode b_Bo_init 31 = .ok (.new 9, 3) := by decide +kernel
theorem d_Bo_init_34 : decode b_Bo_init 34 = .ok (.dup, 1) := by decide +kernel
theorem d_Bo_init_35 : decode b_Bo_init 35 = .ok (.bipush 12, 2) := by decide +kernel
theorem d_Bo_init_37 : decode b_Bo_init 37 = .ok (.invokespecial 11, 3) := by decide +kernel
theorem d_Bo_init_40 : decode b_Bo_init 40 = .ok (.putfield 23, 3) := by decide +kernel
theorem d_Bo_init_43 : decode b_Bo_init 43 = .ok (.aload_n 0, 1) := by decide +kernel
theorem d_Bo_init_44 : decode b_Bo_init 44 = .ok (.new 9, 3) := by decide +kernel
theorem d_Bo_init_47 : decode b_Bo_init 47 = .ok (.dup, 1) := by decide +kernel
theorem d_Bo_init_48 : decode b_Bo_init 48 = .ok (.bipush 24, 2) := by decide +kernel
theorem d_Bo_init_50 : decode b_Bo_init 50 = .ok (.invokespecial 11, 3) := by decide +kernel
theorem d_Bo_init_53 : decode b_Bo_init 53 = .ok (.putfield 26, 3) := by decide +kernel
theorem d_Bo_init_56 : decode b_Bo_init 56 = .ok (.aload_n 0, 1) := by decide +kernel
theorem d_Bo_init_57 : decode b_Bo_init 57 = .ok (.new 9, 3) := by decide +kernel
theorem d_Bo_init_60 : decode b_Bo_init 60 = .ok (.dup, 1) := by decide +kernel
theorem d_Bo_init_61 : decode b_Bo_init 61 = .ok (.bipush 12, 2) := by decide +kernel
theorem d_Bo_init_63 : decode b_Bo_init 63 = .ok (.invokespecial 11, 3) := by decide +kernel
theorem d_Bo_init_66 : decode b_Bo_init 66 = .ok (.putfield 29, 3) := by decide +kernel
theorem d_Bo_init_69 : decode b_Bo_init 69 = .ok (.aload_n 0, 1) := by decide +kernel
theorem d_Bo_init_70 : decode b_Bo_init 70 = .ok (.bipush 16, 2) := by decide +kernel
theorem d_Bo_init_72 : decode b_Bo_init 72 = .ok (.newarray .int, 2) := by decide +kernel
theorem d_Bo_init_74 : decode b_Bo_init 74 = .ok (.putfield 32, 3) := by decide +kernel
theorem d_Bo_init_77 : decode b_Bo_init 77 = .ok (.aload_n 0, 1) := by decide +kernel
theorem d_Bo_init_78 : decode b_Bo_init 78 = .ok (.bipush 16, 2) := by decide +kernel
theorem d_Bo_init_80 : decode b_Bo_init 80 = .ok (.newarray .int, 2) := by decide +kernel
theorem d_Bo_init_82 : decode b_Bo_init 82 = .ok (.putfield 36, 3) := by decide +kernel
theorem d_Bo_init_85 : decode b_Bo_init 85 = .ok (.aload_n 0, 1) := by decide +kernel
theorem d_Bo_init_86 : decode b_Bo_init 86 = .ok (.bipush 64, 2) := by decide +kernel
theorem d_Bo_init_88 : decode b_Bo_init 88 = .ok (.newarray .int, 2) := by decide +kernel
theorem d_Bo_init_90 : decode b_Bo_init 90 = .ok (.putfield 39, 3) := by decide +kernel
theorem d_Bo_init_93 : decode b_Bo_init 93 = .ok (.aload_n 0, 1) := by decide +kernel
theorem d_Bo_init_94 : decode b_Bo_init 94 = .ok (.bipush 64, 2) := by decide +kernel
theorem d_Bo_init_96 : decode b_Bo_init 96 = .ok (.newarray .int, 2) := by decide +kernel
theorem d_Bo_init_98 : decode b_Bo_init 98 = .ok (.putfield 42, 3) := by decide +kernel
theorem d_Bo_init_101 : decode b_Bo_init 101 = .ok (.return_, 1) := by decide +kernel
theorem d_Bo_countConductors_0 : decode b_Bo_countConductors 0 = .ok (.aload_n 0, 1) := by decide +kernel
theorem d_Bo_countConductors_1 : decode b_Bo_countConductors 1 = .ok (.getfield 20, 3) := by decide +kernel
theorem d_Bo_countConductors_4 : decode b_Bo_countConductors 4 = .ok (.getfield 49, 3) := by decide +kernel
theorem d_Bo_countConductors_7 : decode b_Bo_countConductors 7 = .ok (.aload_n 0, 1) := by decide +kernel
theorem d_Bo_countConductors_8 : decode b_Bo_countConductors 8 = .ok (.getfield 23, 3) := by decide +kernel
theorem d_Bo_countConductors_11 : decode b_Bo_countConductors 11 = .ok (.getfield 49, 3) := by decide +kernel
theorem d_Bo_countConductors_14 : decode b_Bo_countConductors 14 = .ok (.iadd, 1) := by decide +kernel
theorem d_Bo_countConductors_15 : decode b_Bo_countConductors 15 = .ok (.aload_n 0, 1) := by decide +kernel
theorem d_Bo_countConductors_16 : decode b_Bo_countConductors 16 = .ok (.getfield 26, 3) := by decide +kernel
theorem d_Bo_countConductors_19 : decode b_Bo_countConductors 19 = .ok (.getfield 49, 3) := by decide +kernel
theorem d_Bo_countConductors_22 : decode b_Bo_countConductors 22 = .ok (.iadd, 1) := by decide +kernel
theorem d_Bo_countConductors_23 : decode b_Bo_countConductors 23 = .ok (.ireturn, 1) := by decide +kernel
theorem d_Bo_addRelay_0 : decode b_Bo_addRelay 0 = .ok (.aload_n 0, 1) := by decide +kernel
theorem d_Bo_addRelay_1 : decode b_Bo_addRelay 1 = .ok (.getfield 14, 3) := by decide +kernel
theorem d_Bo_addRelay_4 : decode b_Bo_addRelay 4 = .ok (.iload_n 1, 1) := by decide +kernel
theorem d_Bo_addRelay_5 : decode b_Bo_addRelay 5 = .ok (.iload_n 2, 1) := by decide +kernel
theorem d_Bo_addRelay_6 : decode b_Bo_addRelay 6 = .ok (.invokevirtual 45, 3) := by decide +kernel
theorem d_Bo_addRelay_9 : decode b_Bo_addRelay 9 = .ok (.istore 5, 2) := by decide +kernel
theorem d_Bo_addRelay_11 : decode b_Bo_addRelay 11 = .ok (.aload_n 0, 1) := by decide +kernel
theorem d_Bo_addRelay_12 : decode b_Bo_addRelay 12 = .ok (.getfield 32, 3) := by decide +kernel
theorem d_Bo_addRelay_15 : decode b_Bo_addRelay 15 = .ok (.iload 5, 2) := by decide +kernel
theorem d_Bo_addRelay_17 : decode b_Bo_addRelay 17 = .ok (.iload_n 3, 1) := by decide +kernel
theorem d_Bo_addRelay_18 : decode b_Bo_addRelay 18 = .ok (.iastore, 1) := by decide +kernel
theorem d_Bo_addRelay_19 : decode b_Bo_addRelay 19 = .ok (.aload_n 0, 1) := by decide +kernel
theorem d_Bo_addRelay_20 : decode b_Bo_addRelay 20 = .ok (.getfield 36, 3) := by decide +kernel
theorem d_Bo_addRelay_23 : decode b_Bo_addRelay 23 = .ok (.iload 5, 2) := by decide +kernel
theorem d_Bo_addRelay_25 : decode b_Bo_addRelay 25 = .ok (.iload 4, 2) := by decide +kernel
theorem d_Bo_addRelay_27 : decode b_Bo_addRelay 27 = .ok (.iastore, 1) := by decide +kernel
theorem d_Bo_addRelay_28 : decode b_Bo_addRelay 28 = .ok (.iload 5, 2) := by decide +kernel
theorem d_Bo_addRelay_30 : decode b_Bo_addRelay 30 = .ok (.ireturn, 1) := by decide +kernel
theorem d_Bo_addContact_0 : decode b_Bo_addContact 0 = .ok (.aload_n 0, 1) := by decide +kernel
theorem d_Bo_addContact_1 : decode b_Bo_addContact 1 = .ok (.getfield 20, 3) := by decide +kernel
theorem d_Bo_addContact_4 : decode b_Bo_addContact 4 = .ok (.iload_n 3, 1) := by decide +kernel
theorem d_Bo_addContact_5 : decode b_Bo_addContact 5 = .ok (.iload 4, 2) := by decide +kernel
theorem d_Bo_addContact_7 : decode b_Bo_addContact 7 = .ok (.invokevirtual 45, 3) := by decide +kernel
theorem d_Bo_addContact_10 : decode b_Bo_addContact 10 = .ok (.istore 5, 2) := by decide +kernel
theorem d_Bo_addContact_12 : decode b_Bo_addContact 12 = .ok (.aload_n 0, 1) := by decide +kernel
theorem d_Bo_addContact_13 : decode b_Bo_addContact 13 = .ok (.getfield 39, 3) := by decide +kernel
theorem d_Bo_addContact_16 : decode b_Bo_addContact 16 = .ok (.iload 5, 2) := by decide +kernel
theorem d_Bo_addContact_18 : decode b_Bo_addContact 18 = .ok (.iload_n 1, 1) := by decide +kernel
theorem d_Bo_addContact_19 : decode b_Bo_addContact 19 = .ok (.iastore, 1) := by decide +kernel
theorem d_Bo_addContact_20 : decode b_Bo_addContact 20 = .ok (.aload_n 0, 1) := by decide +kernel
theorem d_Bo_addContact_21 : decode b_Bo_addContact 21 = .ok (.getfield 42, 3) := by decide +kernel
theorem d_Bo_addContact_24 : decode b_Bo_addContact 24 = .ok (.iload 5, 2) := by decide +kernel
theorem d_Bo_addContact_26 : decode b_Bo_addContact 26 = .ok (.iload_n 1, 1) := by decide +kernel
theorem d_Bo_addContact_27 : decode b_Bo_addContact 27 = .ok (.iconst 4, 1) := by decide +kernel
theorem d_Bo_addContact_28 : decode b_Bo_addContact 28 = .ok (.if_icmp .ne 7, 3) := by decide +kernel
theorem d_Bo_addContact_31 : decode b_Bo_addContact 31 = .ok (.iconst 0, 1) := by decide +kernel
theorem d_Bo_addContact_32 : decode b_Bo_addContact 32 = .ok (.goto 4, 3) := by decide +kernel
theorem d_Bo_addContact_35 : decode b_Bo_addContact 35 = .ok (.iload_n 2, 1) := by decide +kernel
theorem d_Bo_addContact_36 : decode b_Bo_addContact 36 = .ok (.iastore, 1) := by decide +kernel
theorem d_Bo_addContact_37 : decode b_Bo_addContact 37 = .ok (.iload 5, 2) := by decide +kernel
theorem d_Bo_addContact_39 : decode b_Bo_addContact 39 = .ok (.ireturn, 1) := by decide +kernel
theorem d_Pa_init_0 : decode b_Pa_init 0 = .ok (.aload_n 0, 1) := by decide +kernel
theorem d_Pa_init_1 : decode b_Pa_init 1 = .ok (.invokespecial 1, 3) := by decide +kernel
theorem d_Pa_init_4 : decode b_Pa_init 4 = .ok (.aload_n 0, 1) := by decide +kernel
theorem d_Pa_init_5 : decode b_Pa_init 5 = .ok (.iload_n 1, 1) := by decide +kernel
theorem d_Pa_init_6 : decode b_Pa_init 6 = .ok (.newarray .int, 2) := by decide +kernel
theorem d_Pa_init_8 : decode b_Pa_init 8 = .ok (.putfield 7, 3) := by decide +kernel
theorem d_Pa_init_11 : decode b_Pa_init 11 = .ok (.aload_n 0, 1) := by decide +kernel
theorem d_Pa_init_12 : decode b_Pa_init 12 = .ok (.iload_n 1, 1) := by decide +kernel
theorem d_Pa_init_13 : decode b_Pa_init 13 = .ok (.newarray .int, 2) := by decide +kernel
theorem d_Pa_init_15 : decode b_Pa_init 15 = .ok (.putfield 13, 3) := by decide +kernel
theorem d_Pa_init_18 : decode b_Pa_init 18 = .ok (.return_, 1) := by decide +kernel
theorem d_Pa_isFull_0 : decode b_Pa_isFull 0 = .ok (.aload_n 0, 1) := by decide +kernel
theorem d_Pa_isFull_1 : decode b_Pa_isFull 1 = .ok (.getfield 16, 3) := by decide +kernel
theorem d_Pa_isFull_4 : decode b_Pa_isFull 4 = .ok (.aload_n 0, 1) := by decide +kernel
theorem d_Pa_isFull_5 : decode b_Pa_isFull 5 = .ok (.getfield 7, 3) := by decide +kernel
theorem d_Pa_isFull_8 : decode b_Pa_isFull 8 = .ok (.arraylength, 1) := by decide +kernel
theorem d_Pa_isFull_9 : decode b_Pa_isFull 9 = .ok (.if_icmp .lt 7, 3) := by decide +kernel
theorem d_Pa_isFull_12 : decode b_Pa_isFull 12 = .ok (.iconst 1, 1) := by decide +kernel
theorem d_Pa_isFull_13 : decode b_Pa_isFull 13 = .ok (.goto 4, 3) := by decide +kernel
theorem d_Pa_isFull_16 : decode b_Pa_isFull 16 = .ok (.iconst 0, 1) := by decide +kernel
theorem d_Pa_isFull_17 : decode b_Pa_isFull 17 = .ok (.ireturn, 1) := by decide +kernel
theorem d_Pa_add_0 : decode b_Pa_add 0 = .ok (.aload_n 0, 1) := by decide +kernel
theorem d_Pa_add_1 : decode b_Pa_add 1 = .ok (.getfield 7, 3) := by decide +kernel
theorem d_Pa_add_4 : decode b_Pa_add 4 = .ok (.aload_n 0, 1) := by decide +kernel
theorem d_Pa_add_5 : decode b_Pa_add 5 = .ok (.getfield 16, 3) := by decide +kernel
theorem d_Pa_add_8 : decode b_Pa_add 8 = .ok (.iload_n 1, 1) := by decide +kernel
theorem d_Pa_add_9 : decode b_Pa_add 9 = .ok (.iastore, 1) := by decide +kernel
theorem d_Pa_add_10 : decode b_Pa_add 10 = .ok (.aload_n 0, 1) := by decide +kernel
theorem d_Pa_add_11 : decode b_Pa_add 11 = .ok (.getfield 13, 3) := by decide +kernel
theorem d_Pa_add_14 : decode b_Pa_add 14 = .ok (.aload_n 0, 1) := by decide +kernel
theorem d_Pa_add_15 : decode b_Pa_add 15 = .ok (.getfield 16, 3) := by decide +kernel
theorem d_Pa_add_18 : decode b_Pa_add 18 = .ok (.iload_n 2, 1) := by decide +kernel
theorem d_Pa_add_19 : decode b_Pa_add 19 = .ok (.iastore, 1) := by decide +kernel
theorem d_Pa_add_20 : decode b_Pa_add 20 = .ok (.aload_n 0, 1) := by decide +kernel
theorem d_Pa_add_21 : decode b_Pa_add 21 = .ok (.dup, 1) := by decide +kernel
theorem d_Pa_add_22 : decode b_Pa_add 22 = .ok (.getfield 16, 3) := by decide +kernel
theorem d_Pa_add_25 : decode b_Pa_add 25 = .ok (.iconst 1, 1) := by decide +kernel
theorem d_Pa_add_26 : decode b_Pa_add 26 = .ok (.iadd, 1) := by decide +kernel
theorem d_Pa_add_27 : decode b_Pa_add 27 = .ok (.putfield 16, 3) := by decide +kernel
theorem d_Pa_add_30 : decode b_Pa_add 30 = .ok (.aload_n 0, 1) := by decide +kernel
theorem d_Pa_add_31 : decode b_Pa_add 31 = .ok (.getfield 16, 3) := by decide +kernel
theorem d_Pa_add_34 : decode b_Pa_add 34 = .ok (.iconst 1, 1) := by decide +kernel
theorem d_Pa_add_35 : decode b_Pa_add 35 = .ok (.isub, 1) := by decide +kernel
theorem d_Pa_add_36 : decode b_Pa_add 36 = .ok (.ireturn, 1) := by decide +kernel
theorem d_Sd_init_0 : decode b_Sd_init 0 = .ok (.aload_n 0, 1) := by decide +kernel
theorem d_Sd_init_1 : decode b_Sd_init 1 = .ok (.invokespecial 3, 3) := by decide +kernel
theorem d_Sd_init_4 : decode b_Sd_init 4 = .ok (.aload_n 0, 1) := by decide +kernel
theorem d_Sd_init_5 : decode b_Sd_init 5 = .ok (.bipush 16, 2) := by decide +kernel
theorem d_Sd_init_7 : decode b_Sd_init 7 = .ok (.newarray .int, 2) := by decide +kernel
theorem d_Sd_init_9 : decode b_Sd_init 9 = .ok (.putfield 9, 3) := by decide +kernel
theorem d_Sd_init_12 : decode b_Sd_init 12 = .ok (.aload_n 0, 1) := by decide +kernel
theorem d_Sd_init_13 : decode b_Sd_init 13 = .ok (.bipush 16, 2) := by decide +kernel
theorem d_Sd_init_15 : decode b_Sd_init 15 = .ok (.newarray .int, 2) := by decide +kernel
theorem d_Sd_init_17 : decode b_Sd_init 17 = .ok (.putfield 15, 3) := by decide +kernel
theorem d_Sd_init_20 : decode b_Sd_init 20 = .ok (.aload_n 0, 1) := by decide +kernel
theorem d_Sd_init_21 : decode b_Sd_init 21 = .ok (.bipush 16, 2) := by decide +kernel
theorem d_Sd_init_23 : decode b_Sd_init 23 = .ok (.newarray .int, 2) := by decide +kernel
theorem d_Sd_init_25 : decode b_Sd_init 25 = .ok (.putfield 18, 3) := by decide +kernel
theorem d_Sd_init_28 : decode b_Sd_init 28 = .ok (.aload_n 0, 1) := by decide +kernel
theorem d_Sd_init_29 : decode b_Sd_init 29 = .ok (.iconst 0, 1) := by decide +kernel
theorem d_Sd_init_30 : decode b_Sd_init 30 = .ok (.putfield 21, 3) := by decide +kernel
theorem d_Sd_init_33 : decode b_Sd_init 33 = .ok (.aload_n 0, 1) := by decide +kernel
theorem d_Sd_init_34 : decode b_Sd_init 34 = .ok (.iconst (-1), 1) := by decide +kernel
theorem d_Sd_init_35 : decode b_Sd_init 35 = .ok (.putfield 25, 3) := by decide +kernel
theorem d_Sd_init_38 : decode b_Sd_init 38 = .ok (.aload_n 0, 1) := by decide +kernel
theorem d_Sd_init_39 : decode b_Sd_init 39 = .ok (.iconst 0, 1) := by decide +kernel
theorem d_Sd_init_40 : decode b_Sd_init 40 = .ok (.putfield 28, 3) := by decide +kernel
theorem d_Sd_init_43 : decode b_Sd_init 43 = .ok (.aload_n 0, 1) := by decide +kernel
theorem d_Sd_init_44 : decode b_Sd_init 44 = .ok (.iconst 0, 1) := by decide +kernel
theorem d_Sd_init_45 : decode b_Sd_init 45 = .ok (.putfield 31, 3) := by decide +kernel
theorem d_Sd_init_48 : decode b_Sd_init 48 = .ok (.return_, 1) := by decide +kernel
theorem d_Sd_relaysClosing_0 : decode b_Sd_relaysClosing 0 = .ok (.iload_n 1, 1) := by decide +kernel
theorem d_Sd_relaysClosing_1 : decode b_Sd_relaysClosing 1 = .ok (.tableswitch 55 0 3 #[31, 36, 41, 48], 31) := by decide +kernel
theorem d_Sd_relaysClosing_32 : decode b_Sd_relaysClosing 32 = .ok (.aload_n 0, 1) := by decide +kernel
theorem d_Sd_relaysClosing_33 : decode b_Sd_relaysClosing 33 = .ok (.getfield 21, 3) := by decide +kernel
theorem d_Sd_relaysClosing_36 : decode b_Sd_relaysClosing 36 = .ok (.ireturn, 1) := by decide +kernel
theorem d_Sd_relaysClosing_37 : decode b_Sd_relaysClosing 37 = .ok (.aload_n 0, 1) := by decide +kernel
theorem d_Sd_relaysClosing_38 : decode b_Sd_relaysClosing 38 = .ok (.getfield 25, 3) := by decide +kernel
theorem d_Sd_relaysClosing_41 : decode b_Sd_relaysClosing 41 = .ok (.ireturn, 1) := by decide +kernel
theorem d_Sd_relaysClosing_42 : decode b_Sd_relaysClosing 42 = .ok (.aload_n 0, 1) := by decide +kernel
theorem d_Sd_relaysClosing_43 : decode b_Sd_relaysClosing 43 = .ok (.getfield 25, 3) := by decide +kernel
theorem d_Sd_relaysClosing_46 : decode b_Sd_relaysClosing 46 = .ok (.iconst (-1), 1) := by decide +kernel
theorem d_Sd_relaysClosing_47 : decode b_Sd_relaysClosing 47 = .ok (.ixor, 1) := by decide +kernel
theorem d_Sd_relaysClosing_48 : decode b_Sd_relaysClosing 48 = .ok (.ireturn, 1) := by decide +kernel
theorem d_Sd_relaysClosing_49 : decode b_Sd_relaysClosing 49 = .ok (.aload_n 0, 1) := by decide +kernel
theorem d_Sd_relaysClosing_50 : decode b_Sd_relaysClosing 50 = .ok (.getfield 21, 3) := by decide +kernel
theorem d_Sd_relaysClosing_53 : decode b_Sd_relaysClosing 53 = .ok (.iconst (-1), 1) := by decide +kernel
theorem d_Sd_relaysClosing_54 : decode b_Sd_relaysClosing 54 = .ok (.ixor, 1) := by decide +kernel
theorem d_Sd_relaysClosing_55 : decode b_Sd_relaysClosing 55 = .ok (.ireturn, 1) := by decide +kernel
theorem d_Sd_relaysClosing_56 : decode b_Sd_relaysClosing 56 = .ok (.iconst (-1), 1) := by decide +kernel
theorem d_Sd_relaysClosing_57 : decode b_Sd_relaysClosing 57 = .ok (.ireturn, 1) := by decide +kernel
theorem d_Sd_setKnob_0 : decode b_Sd_setKnob 0 = .ok (.aload_n 0, 1) := by decide +kernel
theorem d_Sd_setKnob_1 : decode b_Sd_setKnob 1 = .ok (.getfield 28, 3) := by decide +kernel
theorem d_Sd_setKnob_4 : decode b_Sd_setKnob 4 = .ok (.iload_n 1, 1) := by decide +kernel
theorem d_Sd_setKnob_5 : decode b_Sd_setKnob 5 = .ok (.invokestatic 41, 3) := by decide +kernel
theorem d_Sd_setKnob_8 : decode b_Sd_setKnob 8 = .ok (.istore_n 3, 1) := by decide +kernel
theorem d_Sd_setKnob_9 : decode b_Sd_setKnob 9 = .ok (.aload_n 0, 1) := by decide +kernel
theorem d_Sd_setKnob_10 : decode b_Sd_setKnob 10 = .ok (.aload_n 0, 1) := by decide +kernel
theorem d_Sd_setKnob_11 : decode b_Sd_setKnob 11 = .ok (.getfield 28, 3) := by decide +kernel
theorem d_Sd_setKnob_14 : decode b_Sd_setKnob 14 = .ok (.iload_n 1, 1) := by decide +kernel
theorem d_Sd_setKnob_15 : decode b_Sd_setKnob 15 = .ok (.iload_n 2, 1) := by decide +kernel
theorem d_Sd_setKnob_16 : decode b_Sd_setKnob 16 = .ok (.invokestatic 45, 3) := by decide +kernel
theorem d_Sd_setKnob_19 : decode b_Sd_setKnob 19 = .ok (.putfield 28, 3) := by decide +kernel
theorem d_Sd_setKnob_22 : decode b_Sd_setKnob 22 = .ok (.iload_n 3, 1) := by decide +kernel
theorem d_Sd_setKnob_23 : decode b_Sd_setKnob 23 = .ok (.iload_n 2, 1) := by decide +kernel
theorem d_Sd_setKnob_24 : decode b_Sd_setKnob 24 = .ok (.if_icmp .eq 7, 3) := by decide +kernel
theorem d_Sd_setKnob_27 : decode b_Sd_setKnob 27 = .ok (.iconst 1, 1) := by decide +kernel
theorem d_Sd_setKnob_28 : decode b_Sd_setKnob 28 = .ok (.goto 4, 3) := by decide +kernel
theorem d_Sd_setKnob_31 : decode b_Sd_setKnob 31 = .ok (.iconst 0, 1) := by decide +kernel
theorem d_Sd_setKnob_32 : decode b_Sd_setKnob 32 = .ok (.ireturn, 1) := by decide +kernel
theorem d_Sd_withBit_0 : decode b_Sd_withBit 0 = .ok (.iload_n 2, 1) := by decide +kernel
theorem d_Sd_withBit_1 : decode b_Sd_withBit 1 = .ok (.ifCond .eq 11, 3) := by decide +kernel
theorem d_Sd_withBit_4 : decode b_Sd_withBit 4 = .ok (.iload_n 0, 1) := by decide +kernel
theorem d_Sd_withBit_5 : decode b_Sd_withBit 5 = .ok (.iconst 1, 1) := by decide +kernel
theorem d_Sd_withBit_6 : decode b_Sd_withBit 6 = .ok (.iload_n 1, 1) := by decide +kernel
theorem d_Sd_withBit_7 : decode b_Sd_withBit 7 = .ok (.ishl, 1) := by decide +kernel
theorem d_Sd_withBit_8 : decode b_Sd_withBit 8 = .ok (.ior, 1) := by decide +kernel
theorem d_Sd_withBit_9 : decode b_Sd_withBit 9 = .ok (.goto 10, 3) := by decide +kernel
theorem d_Sd_withBit_12 : decode b_Sd_withBit 12 = .ok (.iload_n 0, 1) := by decide +kernel
theorem d_Sd_withBit_13 : decode b_Sd_withBit 13 = .ok (.iconst 1, 1) := by decide +kernel
theorem d_Sd_withBit_14 : decode b_Sd_withBit 14 = .ok (.iload_n 1, 1) := by decide +kernel
theorem d_Sd_withBit_15 : decode b_Sd_withBit 15 = .ok (.ishl, 1) := by decide +kernel
theorem d_Sd_withBit_16 : decode b_Sd_withBit 16 = .ok (.iconst (-1), 1) := by decide +kernel
theorem d_Sd_withBit_17 : decode b_Sd_withBit 17 = .ok (.ixor, 1) := by decide +kernel
theorem d_Sd_withBit_18 : decode b_Sd_withBit 18 = .ok (.iand, 1) := by decide +kernel
theorem d_Sd_withBit_19 : decode b_Sd_withBit 19 = .ok (.ireturn, 1) := by decide +kernel
theorem d_Sd_rise_0 : decode b_Sd_rise 0 = .ok (.aload_n 0, 1) := by decide +kernel
theorem d_Sd_rise_1 : decode b_Sd_rise 1 = .ok (.getfield 9, 3) := by decide +kernel
theorem d_Sd_rise_4 : decode b_Sd_rise 4 = .ok (.iload_n 1, 1) := by decide +kernel
theorem d_Sd_rise_5 : decode b_Sd_rise 5 = .ok (.iaload, 1) := by decide +kernel
theorem d_Sd_rise_6 : decode b_Sd_rise 6 = .ok (.iconst 2, 1) := by decide +kernel
theorem d_Sd_rise_7 : decode b_Sd_rise 7 = .ok (.if_icmp .ne 5, 3) := by decide +kernel
theorem d_Sd_rise_10 : decode b_Sd_rise 10 = .ok (.iconst 0, 1) := by decide +kernel
theorem d_Sd_rise_11 : decode b_Sd_rise 11 = .ok (.ireturn, 1) := by decide +kernel
theorem d_Sd_rise_12 : decode b_Sd_rise 12 = .ok (.aload_n 0, 1) := by decide +kernel
theorem d_Sd_rise_13 : decode b_Sd_rise 13 = .ok (.getfield 9, 3) := by decide +kernel
theorem d_Sd_rise_16 : decode b_Sd_rise 16 = .ok (.iload_n 1, 1) := by decide +kernel
theorem d_Sd_rise_17 : decode b_Sd_rise 17 = .ok (.iaload, 1) := by decide +kernel
theorem d_Sd_rise_18 : decode b_Sd_rise 18 = .ok (.iconst 3, 1) := by decide +kernel
theorem d_Sd_rise_19 : decode b_Sd_rise 19 = .ok (.if_icmp .ne 12, 3) := by decide +kernel
theorem d_Sd_rise_22 : decode b_Sd_rise 22 = .ok (.aload_n 0, 1) := by decide +kernel
theorem d_Sd_rise_23 : decode b_Sd_rise 23 = .ok (.iload_n 1, 1) := by decide +kernel
theorem d_Sd_rise_24 : decode b_Sd_rise 24 = .ok (.iconst 2, 1) := by decide +kernel
theorem d_Sd_rise_25 : decode b_Sd_rise 25 = .ok (.iconst 0, 1) := by decide +kernel
theorem d_Sd_rise_26 : decode b_Sd_rise 26 = .ok (.invokevirtual 49, 3) := by decide +kernel
theorem d_Sd_rise_29 : decode b_Sd_rise 29 = .ok (.iconst 1, 1) := by decide +kernel
theorem d_Sd_rise_30 : decode b_Sd_rise 30 = .ok (.ireturn, 1) := by decide +kernel
theorem d_Sd_rise_31 : decode b_Sd_rise 31 = .ok (.aload_n 0, 1) := by decide +kernel
theorem d_Sd_rise_32 : decode b_Sd_rise 32 = .ok (.getfield 15, 3) := by decide +kernel
theorem d_Sd_rise_35 : decode b_Sd_rise 35 = .ok (.iload_n 1, 1) := by decide +kernel
theorem d_Sd_rise_36 : decode b_Sd_rise 36 = .ok (.iaload, 1) := by decide +kernel
theorem d_Sd_rise_37 : decode b_Sd_rise 37 = .ok (.iconst 1, 1) := by decide +kernel
theorem d_Sd_rise_38 : decode b_Sd_rise 38 = .ok (.iadd, 1) := by decide +kernel
theorem d_Sd_rise_39 : decode b_Sd_rise 39 = .ok (.istore_n 3, 1) := by decide +kernel
theorem d_Sd_rise_40 : decode b_Sd_rise 40 = .ok (.iload_n 3, 1) := by decide +kernel
theorem d_Sd_rise_41 : decode b_Sd_rise 41 = .ok (.iload_n 2, 1) := by decide +kernel
theorem d_Sd_rise_42 : decode b_Sd_rise 42 = .ok (.if_icmp .lt 23, 3) := by decide +kernel
theorem d_Sd_rise_45 : decode b_Sd_rise 45 = .ok (.aload_n 0, 1) := by decide +kernel
theorem d_Sd_rise_46 : decode b_Sd_rise 46 = .ok (.iload_n 1, 1) := by decide +kernel
theorem d_Sd_rise_47 : decode b_Sd_rise 47 = .ok (.iconst 2, 1) := by decide +kernel
theorem d_Sd_rise_48 : decode b_Sd_rise 48 = .ok (.iconst 0, 1) := by decide +kernel
theorem d_Sd_rise_49 : decode b_Sd_rise 49 = .ok (.invokevirtual 49, 3) := by decide +kernel
theorem d_Sd_rise_52 : decode b_Sd_rise 52 = .ok (.aload_n 0, 1) := by decide +kernel
theorem d_Sd_rise_53 : decode b_Sd_rise 53 = .ok (.getfield 18, 3) := by decide +kernel
theorem d_Sd_rise_56 : decode b_Sd_rise 56 = .ok (.iload_n 1, 1) := by decide +kernel
theorem d_Sd_rise_57 : decode b_Sd_rise 57 = .ok (.dup2, 1) := by decide +kernel
theorem d_Sd_rise_58 : decode b_Sd_rise 58 = .ok (.iaload, 1) := by decide +kernel
theorem d_Sd_rise_59 : decode b_Sd_rise 59 = .ok (.iconst 1, 1) := by decide +kernel
theorem d_Sd_rise_60 : decode b_Sd_rise 60 = .ok (.iadd, 1) := by decide +kernel
theorem d_Sd_rise_61 : decode b_Sd_rise 61 = .ok (.iastore, 1) := by decide +kernel
theorem d_Sd_rise_62 : decode b_Sd_rise 62 = .ok (.goto 10, 3) := by decide +kernel
theorem d_Sd_rise_65 : decode b_Sd_rise 65 = .ok (.aload_n 0, 1) := by decide +kernel
theorem d_Sd_rise_66 : decode b_Sd_rise 66 = .ok (.iload_n 1, 1) := by decide +kernel
theorem d_Sd_rise_67 : decode b_Sd_rise 67 = .ok (.iconst 1, 1) := by decide +kernel
theorem d_Sd_rise_68 : decode b_Sd_rise 68 = .ok (.iload_n 3, 1) := by decide +kernel
theorem d_Sd_rise_69 : decode b_Sd_rise 69 = .ok (.invokevirtual 49, 3) := by decide +kernel
theorem d_Sd_rise_72 : decode b_Sd_rise 72 = .ok (.iconst 1, 1) := by decide +kernel
theorem d_Sd_rise_73 : decode b_Sd_rise 73 = .ok (.ireturn, 1) := by decide +kernel
theorem d_Sd_put_0 : decode b_Sd_put 0 = .ok (.aload_n 0, 1) := by decide +kernel
theorem d_Sd_put_1 : decode b_Sd_put 1 = .ok (.getfield 9, 3) := by decide +kernel
theorem d_Sd_put_4 : decode b_Sd_put 4 = .ok (.iload_n 1, 1) := by decide +kernel
theorem d_Sd_put_5 : decode b_Sd_put 5 = .ok (.iload_n 2, 1) := by decide +kernel
theorem d_Sd_put_6 : decode b_Sd_put 6 = .ok (.iastore, 1) := by decide +kernel
theorem d_Sd_put_7 : decode b_Sd_put 7 = .ok (.aload_n 0, 1) := by decide +kernel
theorem d_Sd_put_8 : decode b_Sd_put 8 = .ok (.getfield 15, 3) := by decide +kernel
theorem d_Sd_put_11 : decode b_Sd_put 11 = .ok (.iload_n 1, 1) := by decide +kernel
theorem d_Sd_put_12 : decode b_Sd_put 12 = .ok (.iload_n 3, 1) := by decide +kernel
theorem d_Sd_put_13 : decode b_Sd_put 13 = .ok (.iastore, 1) := by decide +kernel
theorem d_Sd_put_14 : decode b_Sd_put 14 = .ok (.aload_n 0, 1) := by decide +kernel
theorem d_Sd_put_15 : decode b_Sd_put 15 = .ok (.aload_n 0, 1) := by decide +kernel
theorem d_Sd_put_16 : decode b_Sd_put 16 = .ok (.getfield 21, 3) := by decide +kernel
theorem d_Sd_put_19 : decode b_Sd_put 19 = .ok (.iload_n 1, 1) := by decide +kernel
theorem d_Sd_put_20 : decode b_Sd_put 20 = .ok (.iload_n 2, 1) := by decide +kernel
theorem d_Sd_put_21 : decode b_Sd_put 21 = .ok (.iconst 2, 1) := by decide +kernel
theorem d_Sd_put_22 : decode b_Sd_put 22 = .ok (.if_icmp .ne 7, 3) := by decide +kernel
theorem d_Sd_put_25 : decode b_Sd_put 25 = .ok (.iconst 1, 1) := by decide +kernel
theorem d_Sd_put_26 : decode b_Sd_put 26 = .ok (.goto 4, 3) := by decide +kernel
theorem d_Sd_put_29 : decode b_Sd_put 29 = .ok (.iconst 0, 1) := by decide +kernel
theorem d_Sd_put_30 : decode b_Sd_put 30 = .ok (.invokestatic 45, 3) := by decide +kernel
theorem d_Sd_put_33 : decode b_Sd_put 33 = .ok (.putfield 21, 3) := by decide +kernel
theorem d_Sd_put_36 : decode b_Sd_put 36 = .ok (.aload_n 0, 1) := by decide +kernel
theorem d_Sd_put_37 : decode b_Sd_put 37 = .ok (.aload_n 0, 1) := by decide +kernel
theorem d_Sd_put_38 : decode b_Sd_put 38 = .ok (.getfield 25, 3) := by decide +kernel
theorem d_Sd_put_41 : decode b_Sd_put 41 = .ok (.iload_n 1, 1) := by decide +kernel
theorem d_Sd_put_42 : decode b_Sd_put 42 = .ok (.iload_n 2, 1) := by decide +kernel
theorem d_Sd_put_43 : decode b_Sd_put 43 = .ok (.ifCond .ne 7, 3) := by decide +kernel
theorem d_Sd_put_46 : decode b_Sd_put 46 = .ok (.iconst 1, 1) := by decide +kernel
theorem d_Sd_put_47 : decode b_Sd_put 47 = .ok (.goto 4, 3) := by decide +kernel
theorem d_Sd_put_50 : decode b_Sd_put 50 = .ok (.iconst 0, 1) := by decide +kernel
theorem d_Sd_put_51 : decode b_Sd_put 51 = .ok (.invokestatic 45, 3) := by decide +kernel
theorem d_Sd_put_54 : decode b_Sd_put 54 = .ok (.putfield 25, 3) := by decide +kernel
theorem d_Sd_put_57 : decode b_Sd_put 57 = .ok (.return_, 1) := by decide +kernel
theorem d_Sd_fall_0 : decode b_Sd_fall 0 = .ok (.aload_n 0, 1) := by decide +kernel
theorem d_Sd_fall_1 : decode b_Sd_fall 1 = .ok (.getfield 9, 3) := by decide +kernel
theorem d_Sd_fall_4 : decode b_Sd_fall 4 = .ok (.iload_n 1, 1) := by decide +kernel
theorem d_Sd_fall_5 : decode b_Sd_fall 5 = .ok (.iaload, 1) := by decide +kernel
theorem d_Sd_fall_6 : decode b_Sd_fall 6 = .ok (.ifCond .ne 5, 3) := by decide +kernel
theorem d_Sd_fall_9 : decode b_Sd_fall 9 = .ok (.iconst 0, 1) := by decide +kernel
theorem d_Sd_fall_10 : decode b_Sd_fall 10 = .ok (.ireturn, 1) := by decide +kernel
theorem d_Sd_fall_11 : decode b_Sd_fall 11 = .ok (.aload_n 0, 1) := by decide +kernel
theorem d_Sd_fall_12 : decode b_Sd_fall 12 = .ok (.getfield 9, 3) := by decide +kernel
theorem d_Sd_fall_15 : decode b_Sd_fall 15 = .ok (.iload_n 1, 1) := by decide +kernel
theorem d_Sd_fall_16 : decode b_Sd_fall 16 = .ok (.iaload, 1) := by decide +kernel
theorem d_Sd_fall_17 : decode b_Sd_fall 17 = .ok (.iconst 1, 1) := by decide +kernel
theorem d_Sd_fall_18 : decode b_Sd_fall 18 = .ok (.if_icmp .ne 12, 3) := by decide +kernel
theorem d_Sd_fall_21 : decode b_Sd_fall 21 = .ok (.aload_n 0, 1) := by decide +kernel
theorem d_Sd_fall_22 : decode b_Sd_fall 22 = .ok (.iload_n 1, 1) := by decide +kernel
theorem d_Sd_fall_23 : decode b_Sd_fall 23 = .ok (.iconst 0, 1) := by decide +kernel
theorem d_Sd_fall_24 : decode b_Sd_fall 24 = .ok (.iconst 0, 1) := by decide +kernel
theorem d_Sd_fall_25 : decode b_Sd_fall 25 = .ok (.invokevirtual 49, 3) := by decide +kernel
theorem d_Sd_fall_28 : decode b_Sd_fall 28 = .ok (.iconst 1, 1) := by decide +kernel
theorem d_Sd_fall_29 : decode b_Sd_fall 29 = .ok (.ireturn, 1) := by decide +kernel
theorem d_Sd_fall_30 : decode b_Sd_fall 30 = .ok (.aload_n 0, 1) := by decide +kernel
theorem d_Sd_fall_31 : decode b_Sd_fall 31 = .ok (.getfield 15, 3) := by decide +kernel
theorem d_Sd_fall_34 : decode b_Sd_fall 34 = .ok (.iload_n 1, 1) := by decide +kernel
theorem d_Sd_fall_35 : decode b_Sd_fall 35 = .ok (.iaload, 1) := by decide +kernel
theorem d_Sd_fall_36 : decode b_Sd_fall 36 = .ok (.iconst 1, 1) := by decide +kernel
theorem d_Sd_fall_37 : decode b_Sd_fall 37 = .ok (.iadd, 1) := by decide +kernel
theorem d_Sd_fall_38 : decode b_Sd_fall 38 = .ok (.istore_n 3, 1) := by decide +kernel
theorem d_Sd_fall_39 : decode b_Sd_fall 39 = .ok (.iload_n 3, 1) := by decide +kernel
theorem d_Sd_fall_40 : decode b_Sd_fall 40 = .ok (.iload_n 2, 1) := by decide +kernel
theorem d_Sd_fall_41 : decode b_Sd_fall 41 = .ok (.if_icmp .lt 13, 3) := by decide +kernel
theorem d_Sd_fall_44 : decode b_Sd_fall 44 = .ok (.aload_n 0, 1) := by decide +kernel
theorem d_Sd_fall_45 : decode b_Sd_fall 45 = .ok (.iload_n 1, 1) := by decide +kernel
theorem d_Sd_fall_46 : decode b_Sd_fall 46 = .ok (.iconst 0, 1) := by decide +kernel
theorem d_Sd_fall_47 : decode b_Sd_fall 47 = .ok (.iconst 0, 1) := by decide +kernel
theorem d_Sd_fall_48 : decode b_Sd_fall 48 = .ok (.invokevirtual 49, 3) := by decide +kernel
theorem d_Sd_fall_51 : decode b_Sd_fall 51 = .ok (.goto 10, 3) := by decide +kernel
theorem d_Sd_fall_54 : decode b_Sd_fall 54 = .ok (.aload_n 0, 1) := by decide +kernel
theorem d_Sd_fall_55 : decode b_Sd_fall 55 = .ok (.iload_n 1, 1) := by decide +kernel
theorem d_Sd_fall_56 : decode b_Sd_fall 56 = .ok (.iconst 3, 1) := by decide +kernel
theorem d_Sd_fall_57 : decode b_Sd_fall 57 = .ok (.iload_n 3, 1) := by decide +kernel
theorem d_Sd_fall_58 : decode b_Sd_fall 58 = .ok (.invokevirtual 49, 3) := by decide +kernel
theorem d_Sd_fall_61 : decode b_Sd_fall 61 = .ok (.iconst 1, 1) := by decide +kernel
theorem d_Sd_fall_62 : decode b_Sd_fall 62 = .ok (.ireturn, 1) := by decide +kernel
theorem d_Sd_become_0 : decode b_Sd_become 0 = .ok (.aload_n 1, 1) := by decide +kernel
theorem d_Sd_become_1 : decode b_Sd_become 1 = .ok (.getfield 9, 3) := by decide +kernel
theorem d_Sd_become_4 : decode b_Sd_become 4 = .ok (.iconst 0, 1) := by decide +kernel
theorem d_Sd_become_5 : decode b_Sd_become 5 = .ok (.aload_n 0, 1) := by decide +kernel
theorem d_Sd_become_6 : decode b_Sd_become 6 = .ok (.getfield 9, 3) := by decide +kernel
theorem d_Sd_become_9 : decode b_Sd_become 9 = .ok (.iconst 0, 1) := by decide +kernel
theorem d_Sd_become_10 : decode b_Sd_become 10 = .ok (.bipush 16, 2) := by decide +kernel
theorem d_Sd_become_12 : decode b_Sd_become 12 = .ok (.invokestatic 35, 3) := by decide +kernel
theorem d_Sd_become_15 : decode b_Sd_become 15 = .ok (.aload_n 1, 1) := by decide +kernel
theorem d_Sd_become_16 : decode b_Sd_become 16 = .ok (.getfield 15, 3) := by decide +kernel
theorem d_Sd_become_19 : decode b_Sd_become 19 = .ok (.iconst 0, 1) := by decide +kernel
theorem d_Sd_become_20 : decode b_Sd_become 20 = .ok (.aload_n 0, 1) := by decide +kernel
theorem d_Sd_become_21 : decode b_Sd_become 21 = .ok (.getfield 15, 3) := by decide +kernel
theorem d_Sd_become_24 : decode b_Sd_become 24 = .ok (.iconst 0, 1) := by decide +kernel
theorem d_Sd_become_25 : decode b_Sd_become 25 = .ok (.bipush 16, 2) := by decide +kernel
theorem d_Sd_become_27 : decode b_Sd_become 27 = .ok (.invokestatic 35, 3) := by decide +kernel
theorem d_Sd_become_30 : decode b_Sd_become 30 = .ok (.aload_n 1, 1) := by decide +kernel
theorem d_Sd_become_31 : decode b_Sd_become 31 = .ok (.getfield 18, 3) := by decide +kernel
theorem d_Sd_become_34 : decode b_Sd_become 34 = .ok (.iconst 0, 1) := by decide +kernel
theorem d_Sd_become_35 : decode b_Sd_become 35 = .ok (.aload_n 0, 1) := by decide +kernel
theorem d_Sd_become_36 : decode b_Sd_become 36 = .ok (.getfield 18, 3) := by decide +kernel
theorem d_Sd_become_39 : decode b_Sd_become 39 = .ok (.iconst 0, 1) := by decide +kernel
theorem d_Sd_become_40 : decode b_Sd_become 40 = .ok (.bipush 16, 2) := by decide +kernel
theorem d_Sd_become_42 : decode b_Sd_become 42 = .ok (.invokestatic 35, 3) := by decide +kernel
theorem d_Sd_become_45 : decode b_Sd_become 45 = .ok (.aload_n 0, 1) := by decide +kernel
theorem d_Sd_become_46 : decode b_Sd_become 46 = .ok (.aload_n 1, 1) := by decide +kernel
theorem d_Sd_become_47 : decode b_Sd_become 47 = .ok (.getfield 21, 3) := by decide +kernel
theorem d_Sd_become_50 : decode b_Sd_become 50 = .ok (.putfield 21, 3) := by decide +kernel
theorem d_Sd_become_53 : decode b_Sd_become 53 = .ok (.aload_n 0, 1) := by decide +kernel
theorem d_Sd_become_54 : decode b_Sd_become 54 = .ok (.aload_n 1, 1) := by decide +kernel
theorem d_Sd_become_55 : decode b_Sd_become 55 = .ok (.getfield 25, 3) := by decide +kernel
theorem d_Sd_become_58 : decode b_Sd_become 58 = .ok (.putfield 25, 3) := by decide +kernel
theorem d_Sd_become_61 : decode b_Sd_become 61 = .ok (.aload_n 0, 1) := by decide +kernel
theorem d_Sd_become_62 : decode b_Sd_become 62 = .ok (.aload_n 1, 1) := by decide +kernel
theorem d_Sd_become_63 : decode b_Sd_become 63 = .ok (.getfield 28, 3) := by decide +kernel
theorem d_Sd_become_66 : decode b_Sd_become 66 = .ok (.putfield 28, 3) := by decide +kernel
theorem d_Sd_become_69 : decode b_Sd_become 69 = .ok (.aload_n 0, 1) := by decide +kernel
theorem d_Sd_become_70 : decode b_Sd_become 70 = .ok (.aload_n 1, 1) := by decide +kernel
theorem d_Sd_become_71 : decode b_Sd_become 71 = .ok (.getfield 31, 3) := by decide +kernel
theorem d_Sd_become_74 : decode b_Sd_become 74 = .ok (.putfield 31, 3) := by decide +kernel
theorem d_Sd_become_77 : decode b_Sd_become 77 = .ok (.return_, 1) := by decide +kernel
theorem d_Mo_init_0 : decode b_Mo_init 0 = .ok (.aload_n 0, 1) := by decide +kernel
theorem d_Mo_init_1 : decode b_Mo_init 1 = .ok (.invokespecial 3, 3) := by decide +kernel
theorem d_Mo_init_4 : decode b_Mo_init 4 = .ok (.aload_n 0, 1) := by decide +kernel
theorem d_Mo_init_5 : decode b_Mo_init 5 = .ok (.aload_n 1, 1) := by decide +kernel
theorem d_Mo_init_6 : decode b_Mo_init 6 = .ok (.putfield 9, 3) := by decide +kernel
theorem d_Mo_init_9 : decode b_Mo_init 9 = .ok (.aload_n 0, 1) := by decide +kernel
theorem d_Mo_init_10 : decode b_Mo_init 10 = .ok (.new 15, 3) := by decide +kernel
theorem d_Mo_init_13 : decode b_Mo_init 13 = .ok (.dup, 1) := by decide +kernel
theorem d_Mo_init_14 : decode b_Mo_init 14 = .ok (.aload_n 1, 1) := by decide +kernel
theorem d_Mo_init_15 : decode b_Mo_init 15 = .ok (.invokespecial 17, 3) := by decide +kernel
theorem d_Mo_init_18 : decode b_Mo_init 18 = .ok (.putfield 20, 3) := by decide +kernel
theorem d_Mo_init_21 : decode b_Mo_init 21 = .ok (.return_, 1) := by decide +kernel
theorem d_Mo_currents_0 : decode b_Mo_currents 0 = .ok (.aload_n 1, 1) := by decide +kernel
theorem d_Mo_currents_1 : decode b_Mo_currents 1 = .ok (.getfield 28, 3) := by decide +kernel
theorem d_Mo_currents_4 : decode b_Mo_currents 4 = .ok (.ifCond .eq 5, 3) := by decide +kernel
theorem d_Mo_currents_7 : decode b_Mo_currents 7 = .ok (.iconst 0, 1) := by decide +kernel
theorem d_Mo_currents_8 : decode b_Mo_currents 8 = .ok (.ireturn, 1) := by decide +kernel
theorem d_Mo_currents_9 : decode b_Mo_currents 9 = .ok (.aload_n 0, 1) := by decide +kernel
theorem d_Mo_currents_10 : decode b_Mo_currents 10 = .ok (.getfield 20, 3) := by decide +kernel
theorem d_Mo_currents_13 : decode b_Mo_currents 13 = .ok (.aload_n 1, 1) := by decide +kernel
theorem d_Mo_currents_14 : decode b_Mo_currents 14 = .ok (.invokevirtual 24, 3) := by decide +kernel
theorem d_Mo_currents_17 : decode b_Mo_currents 17 = .ok (.aload_n 0, 1) := by decide +kernel
theorem d_Mo_currents_18 : decode b_Mo_currents 18 = .ok (.getfield 20, 3) := by decide +kernel
theorem d_Mo_currents_21 : decode b_Mo_currents 21 = .ok (.aload_n 2, 1) := by decide +kernel
theorem d_Mo_currents_22 : decode b_Mo_currents 22 = .ok (.invokevirtual 38, 3) := by decide +kernel
theorem d_Mo_currents_25 : decode b_Mo_currents 25 = .ok (.ireturn, 1) := by decide +kernel
theorem d_Mo_lookAtFuse_0 : decode b_Mo_lookAtFuse 0 = .ok (.aload_n 1, 1) := by decide +kernel
theorem d_Mo_lookAtFuse_1 : decode b_Mo_lookAtFuse 1 = .ok (.getfield 28, 3) := by decide +kernel
theorem d_Mo_lookAtFuse_4 : decode b_Mo_lookAtFuse 4 = .ok (.ifCond .eq 5, 3) := by decide +kernel
theorem d_Mo_lookAtFuse_7 : decode b_Mo_lookAtFuse 7 = .ok (.iconst 0, 1) := by decide +kernel
theorem d_Mo_lookAtFuse_8 : decode b_Mo_lookAtFuse 8 = .ok (.ireturn, 1) := by decide +kernel
theorem d_Mo_lookAtFuse_9 : decode b_Mo_lookAtFuse 9 = .ok (.aload_n 0, 1) := by decide +kernel
theorem d_Mo_lookAtFuse_10 : decode b_Mo_lookAtFuse 10 = .ok (.getfield 20, 3) := by decide +kernel
theorem d_Mo_lookAtFuse_13 : decode b_Mo_lookAtFuse 13 = .ok (.aload_n 1, 1) := by decide +kernel
theorem d_Mo_lookAtFuse_14 : decode b_Mo_lookAtFuse 14 = .ok (.invokevirtual 24, 3) := by decide +kernel
theorem d_Mo_lookAtFuse_17 : decode b_Mo_lookAtFuse 17 = .ok (.aload_n 1, 1) := by decide +kernel
theorem d_Mo_lookAtFuse_18 : decode b_Mo_lookAtFuse 18 = .ok (.aload_n 0, 1) := by decide +kernel
theorem d_Mo_lookAtFuse_19 : decode b_Mo_lookAtFuse 19 = .ok (.getfield 20, 3) := by decide +kernel
theorem d_Mo_lookAtFuse_22 : decode b_Mo_lookAtFuse 22 = .ok (.iconst 1, 1) := by decide +kernel
theorem d_Mo_lookAtFuse_23 : decode b_Mo_lookAtFuse 23 = .ok (.invokevirtual 34, 3) := by decide +kernel
theorem d_Mo_lookAtFuse_26 : decode b_Mo_lookAtFuse 26 = .ok (.putfield 28, 3) := by decide +kernel
theorem d_Mo_lookAtFuse_29 : decode b_Mo_lookAtFuse 29 = .ok (.aload_n 1, 1) := by decide +kernel
theorem d_Mo_lookAtFuse_30 : decode b_Mo_lookAtFuse 30 = .ok (.getfield 28, 3) := by decide +kernel
theorem d_Mo_lookAtFuse_33 : decode b_Mo_lookAtFuse 33 = .ok (.ireturn, 1) := by decide +kernel
theorem d_Mo_flowOf_0 : decode b_Mo_flowOf 0 = .ok (.aload_n 0, 1) := by decide +kernel
theorem d_Mo_flowOf_1 : decode b_Mo_flowOf 1 = .ok (.getfield 20, 3) := by decide +kernel
theorem d_Mo_flowOf_4 : decode b_Mo_flowOf 4 = .ok (.aload_n 1, 1) := by decide +kernel
theorem d_Mo_flowOf_5 : decode b_Mo_flowOf 5 = .ok (.invokevirtual 24, 3) := by decide +kernel
theorem d_Mo_flowOf_8 : decode b_Mo_flowOf 8 = .ok (.aload_n 0, 1) := by decide +kernel
theorem d_Mo_flowOf_9 : decode b_Mo_flowOf 9 = .ok (.getfield 20, 3) := by decide +kernel
theorem d_Mo_flowOf_12 : decode b_Mo_flowOf 12 = .ok (.areturn, 1) := by decide +kernel
theorem d_Mo_step_0 : decode b_Mo_step 0 = .ok (.aload_n 0, 1) := by decide +kernel
theorem d_Mo_step_1 : decode b_Mo_step 1 = .ok (.aload_n 1, 1) := by decide +kernel
theorem d_Mo_step_2 : decode b_Mo_step 2 = .ok (.invokevirtual 42, 3) := by decide +kernel
theorem d_Mo_step_5 : decode b_Mo_step 5 = .ok (.istore_n 3, 1) := by decide +kernel
theorem d_Mo_step_6 : decode b_Mo_step 6 = .ok (.aload_n 0, 1) := by decide +kernel
theorem d_Mo_step_7 : decode b_Mo_step 7 = .ok (.aload_n 1, 1) := by decide +kernel
theorem d_Mo_step_8 : decode b_Mo_step 8 = .ok (.aload_n 0, 1) := by decide +kernel
theorem d_Mo_step_9 : decode b_Mo_step 9 = .ok (.getfield 9, 3) := by decide +kernel
theorem d_Mo_step_12 : decode b_Mo_step 12 = .ok (.getfield 46, 3) := by decide +kernel
theorem d_Mo_step_15 : decode b_Mo_step 15 = .ok (.invokevirtual 52, 3) := by decide +kernel
theorem d_Mo_step_18 : decode b_Mo_step 18 = .ok (.istore 4, 2) := by decide +kernel
theorem d_Mo_step_20 : decode b_Mo_step 20 = .ok (.iconst 0, 1) := by decide +kernel
theorem d_Mo_step_21 : decode b_Mo_step 21 = .ok (.istore 5, 2) := by decide +kernel
theorem d_Mo_step_23 : decode b_Mo_step 23 = .ok (.iload 5, 2) := by decide +kernel
theorem d_Mo_step_25 : decode b_Mo_step 25 = .ok (.aload_n 0, 1) := by decide +kernel
theorem d_Mo_step_26 : decode b_Mo_step 26 = .ok (.getfield 9, 3) := by decide +kernel
theorem d_Mo_step_29 : decode b_Mo_step 29 = .ok (.getfield 46, 3) := by decide +kernel
theorem d_Mo_step_32 : decode b_Mo_step 32 = .ok (.getfield 56, 3) := by decide +kernel
theorem d_Mo_step_35 : decode b_Mo_step 35 = .ok (.if_icmp .ge 93, 3) := by decide +kernel
theorem d_Mo_step_38 : decode b_Mo_step 38 = .ok (.iload_n 2, 1) := by decide +kernel
theorem d_Mo_step_39 : decode b_Mo_step 39 = .ok (.iload 5, 2) := by decide +kernel
theorem d_Mo_step_41 : decode b_Mo_step 41 = .ok (.invokestatic 62, 3) := by decide +kernel
theorem d_Mo_step_44 : decode b_Mo_step 44 = .ok (.ifCond .eq 7, 3) := by decide +kernel
theorem d_Mo_step_47 : decode b_Mo_step 47 = .ok (.iconst 1, 1) := by decide +kernel
theorem d_Mo_step_48 : decode b_Mo_step 48 = .ok (.goto 4, 3) := by decide +kernel
theorem d_Mo_step_51 : decode b_Mo_step 51 = .ok (.iconst 0, 1) := by decide +kernel
theorem d_Mo_step_52 : decode b_Mo_step 52 = .ok (.istore 6, 2) := by decide +kernel
theorem d_Mo_step_54 : decode b_Mo_step 54 = .ok (.iload 4, 2) := by decide +kernel
theorem d_Mo_step_56 : decode b_Mo_step 56 = .ok (.iload 5, 2) := by decide +kernel
theorem d_Mo_step_58 : decode b_Mo_step 58 = .ok (.invokestatic 62, 3) := by decide +kernel
theorem d_Mo_step_61 : decode b_Mo_step 61 = .ok (.ifCond .eq 25, 3) := by decide +kernel
theorem d_Mo_step_64 : decode b_Mo_step 64 = .ok (.aload_n 1, 1) := by decide +kernel
theorem d_Mo_step_65 : decode b_Mo_step 65 = .ok (.iload 5, 2) := by decide +kernel
theorem d_Mo_step_67 : decode b_Mo_step 67 = .ok (.aload_n 0, 1) := by decide +kernel
theorem d_Mo_step_68 : decode b_Mo_step 68 = .ok (.getfield 9, 3) := by decide +kernel
theorem d_Mo_step_71 : decode b_Mo_step 71 = .ok (.getfield 66, 3) := by decide +kernel
theorem d_Mo_step_74 : decode b_Mo_step 74 = .ok (.iload 5, 2) := by decide +kernel
theorem d_Mo_step_76 : decode b_Mo_step 76 = .ok (.iaload, 1) := by decide +kernel
theorem d_Mo_step_77 : decode b_Mo_step 77 = .ok (.iload 6, 2) := by decide +kernel
theorem d_Mo_step_79 : decode b_Mo_step 79 = .ok (.iadd, 1) := by decide +kernel
theorem d_Mo_step_80 : decode b_Mo_step 80 = .ok (.invokevirtual 70, 3) := by decide +kernel
theorem d_Mo_step_83 : decode b_Mo_step 83 = .ok (.goto 22, 3) := by decide +kernel
theorem d_Mo_step_86 : decode b_Mo_step 86 = .ok (.aload_n 1, 1) := by decide +kernel
theorem d_Mo_step_87 : decode b_Mo_step 87 = .ok (.iload 5, 2) := by decide +kernel
theorem d_Mo_step_89 : decode b_Mo_step 89 = .ok (.aload_n 0, 1) := by decide +kernel
theorem d_Mo_step_90 : decode b_Mo_step 90 = .ok (.getfield 9, 3) := by decide +kernel
theorem d_Mo_step_93 : decode b_Mo_step 93 = .ok (.getfield 73, 3) := by decide +kernel
theorem d_Mo_step_96 : decode b_Mo_step 96 = .ok (.iload 5, 2) := by decide +kernel
theorem d_Mo_step_98 : decode b_Mo_step 98 = .ok (.iaload, 1) := by decide +kernel
theorem d_Mo_step_99 : decode b_Mo_step 99 = .ok (.iload 6, 2) := by decide +kernel
theorem d_Mo_step_101 : decode b_Mo_step 101 = .ok (.iadd, 1) := by decide +kernel
theorem d_Mo_step_102 : decode b_Mo_step 102 = .ok (.invokevirtual 76, 3) := by decide +kernel
theorem d_Mo_step_105 : decode b_Mo_step 105 = .ok (.istore 7, 2) := by decide +kernel
theorem d_Mo_step_107 : decode b_Mo_step 107 = .ok (.iload_n 3, 1) := by decide +kernel
theorem d_Mo_step_108 : decode b_Mo_step 108 = .ok (.ifCond .ne 8, 3) := by decide +kernel
theorem d_Mo_step_111 : decode b_Mo_step 111 = .ok (.iload 7, 2) := by decide +kernel
theorem d_Mo_step_113 : decode b_Mo_step 113 = .ok (.ifCond .eq 7, 3) := by decide +kernel
theorem d_Mo_step_116 : decode b_Mo_step 116 = .ok (.iconst 1, 1) := by decide +kernel
theorem d_Mo_step_117 : decode b_Mo_step 117 = .ok (.goto 4, 3) := by decide +kernel
theorem d_Mo_step_120 : decode b_Mo_step 120 = .ok (.iconst 0, 1) := by decide +kernel
theorem d_Mo_step_121 : decode b_Mo_step 121 = .ok (.istore_n 3, 1) := by decide +kernel
theorem d_Mo_step_122 : decode b_Mo_step 122 = .ok (.iinc 5 1, 3) := by decide +kernel
theorem d_Mo_step_125 : decode b_Mo_step 125 = .ok (.goto (-102), 3) := by decide +kernel
theorem d_Mo_step_128 : decode b_Mo_step 128 = .ok (.iload_n 3, 1) := by decide +kernel
theorem d_Mo_step_129 : decode b_Mo_step 129 = .ok (.ireturn, 1) := by decide +kernel
theorem d_Mo_runTillStill_0 : decode b_Mo_runTillStill 0 = .ok (.iconst 0, 1) := by decide +kernel
theorem d_Mo_runTillStill_1 : decode b_Mo_runTillStill 1 = .ok (.istore 4, 2) := by decide +kernel
theorem d_Mo_runTillStill_3 : decode b_Mo_runTillStill 3 = .ok (.iload 4, 2) := by decide +kernel
theorem d_Mo_runTillStill_5 : decode b_Mo_runTillStill 5 = .ok (.iload_n 3, 1) := by decide +kernel
theorem d_Mo_runTillStill_6 : decode b_Mo_runTillStill 6 = .ok (.if_icmp .gt 21, 3) := by decide +kernel
theorem d_Mo_runTillStill_9 : decode b_Mo_runTillStill 9 = .ok (.aload_n 0, 1) := by decide +kernel
theorem d_Mo_runTillStill_10 : decode b_Mo_runTillStill 10 = .ok (.aload_n 1, 1) := by decide +kernel
theorem d_Mo_runTillStill_11 : decode b_Mo_runTillStill 11 = .ok (.iload_n 2, 1) := by decide +kernel
theorem d_Mo_runTillStill_12 : decode b_Mo_runTillStill 12 = .ok (.invokevirtual 79, 3) := by decide +kernel
theorem d_Mo_runTillStill_15 : decode b_Mo_runTillStill 15 = .ok (.ifCond .ne 6, 3) := by decide +kernel
theorem d_Mo_runTillStill_18 : decode b_Mo_runTillStill 18 = .ok (.iload 4, 2) := by decide +kernel
theorem d_Mo_runTillStill_20 : decode b_Mo_runTillStill 20 = .ok (.ireturn, 1) := by decide +kernel
theorem d_Mo_runTillStill_21 : decode b_Mo_runTillStill 21 = .ok (.iinc 4 1, 3) := by decide +kernel
theorem d_Mo_runTillStill_24 : decode b_Mo_runTillStill 24 = .ok (.goto (-21), 3) := by decide +kernel
theorem d_Mo_runTillStill_27 : decode b_Mo_runTillStill 27 = .ok (.iconst (-1), 1) := by decide +kernel
theorem d_Mo_runTillStill_28 : decode b_Mo_runTillStill 28 = .ok (.ireturn, 1) := by decide +kernel
theorem d_Fl_init_0 : decode b_Fl_init 0 = .ok (.aload_n 0, 1) := by decide +kernel
theorem d_Fl_init_1 : decode b_Fl_init 1 = .ok (.invokespecial 3, 3) := by decide +kernel
theorem d_Fl_init_4 : decode b_Fl_init 4 = .ok (.aload_n 0, 1) := by decide +kernel
theorem d_Fl_init_5 : decode b_Fl_init 5 = .ok (.bipush 48, 2) := by decide +kernel
theorem d_Fl_init_7 : decode b_Fl_init 7 = .ok (.newarray .long, 2) := by decide +kernel
theorem d_Fl_init_9 : decode b_Fl_init 9 = .ok (.putfield 9, 3) := by decide +kernel
theorem d_Fl_init_12 : decode b_Fl_init 12 = .ok (.aload_n 0, 1) := by decide +kernel
theorem d_Fl_init_13 : decode b_Fl_init 13 = .ok (.bipush 48, 2) := by decide +kernel
theorem d_Fl_init_15 : decode b_Fl_init 15 = .ok (.newarray .long, 2) := by decide +kernel
theorem d_Fl_init_17 : decode b_Fl_init 17 = .ok (.putfield 15, 3) := by decide +kernel
theorem d_Fl_init_20 : decode b_Fl_init 20 = .ok (.aload_n 0, 1) := by decide +kernel
theorem d_Fl_init_21 : decode b_Fl_init 21 = .ok (.lconst 0, 1) := by decide +kernel
theorem d_Fl_init_22 : decode b_Fl_init 22 = .ok (.putfield 18, 3) := by decide +kernel
theorem d_Fl_init_25 : decode b_Fl_init 25 = .ok (.aload_n 0, 1) := by decide +kernel
theorem d_Fl_init_26 : decode b_Fl_init 26 = .ok (.lconst 0, 1) := by decide +kernel
theorem d_Fl_init_27 : decode b_Fl_init 27 = .ok (.putfield 22, 3) := by decide +kernel
theorem d_Fl_init_30 : decode b_Fl_init 30 = .ok (.aload_n 0, 1) := by decide +kernel
theorem d_Fl_init_31 : decode b_Fl_init 31 = .ok (.iconst 0, 1) := by decide +kernel
theorem d_Fl_init_32 : decode b_Fl_init 32 = .ok (.putfield 25, 3) := by decide +kernel
theorem d_Fl_init_35 : decode b_Fl_init 35 = .ok (.aload_n 0, 1) := by decide +kernel
theorem d_Fl_init_36 : decode b_Fl_init 36 = .ok (.iconst (-1), 1) := by decide +kernel
theorem d_Fl_init_37 : decode b_Fl_init 37 = .ok (.putfield 29, 3) := by decide +kernel
theorem d_Fl_init_40 : decode b_Fl_init 40 = .ok (.aload_n 0, 1) := by decide +kernel
theorem d_Fl_init_41 : decode b_Fl_init 41 = .ok (.iconst 0, 1) := by decide +kernel
theorem d_Fl_init_42 : decode b_Fl_init 42 = .ok (.putfield 32, 3) := by decide +kernel
theorem d_Fl_init_45 : decode b_Fl_init 45 = .ok (.aload_n 0, 1) := by decide +kernel
theorem d_Fl_init_46 : decode b_Fl_init 46 = .ok (.iconst 0, 1) := by decide +kernel
theorem d_Fl_init_47 : decode b_Fl_init 47 = .ok (.putfield 35, 3) := by decide +kernel
theorem d_Fl_init_50 : decode b_Fl_init 50 = .ok (.aload_n 0, 1) := by decide +kernel
theorem d_Fl_init_51 : decode b_Fl_init 51 = .ok (.iconst 0, 1) := by decide +kernel
theorem d_Fl_init_52 : decode b_Fl_init 52 = .ok (.putfield 38, 3) := by decide +kernel
theorem d_Fl_init_55 : decode b_Fl_init 55 = .ok (.aload_n 0, 1) := by decide +kernel
theorem d_Fl_init_56 : decode b_Fl_init 56 = .ok (.aload_n 1, 1) := by decide +kernel
theorem d_Fl_init_57 : decode b_Fl_init 57 = .ok (.putfield 41, 3) := by decide +kernel
theorem d_Fl_init_60 : decode b_Fl_init 60 = .ok (.return_, 1) := by decide +kernel
theorem d_Fl_follow_0 : decode b_Fl_follow 0 = .ok (.aload_n 0, 1) := by decide +kernel
theorem d_Fl_follow_1 : decode b_Fl_follow 1 = .ok (.aload_n 1, 1) := by decide +kernel
theorem d_Fl_follow_2 : decode b_Fl_follow 2 = .ok (.invokevirtual 45, 3) := by decide +kernel
theorem d_Fl_follow_5 : decode b_Fl_follow 5 = .ok (.ifCond .eq 4, 3) := by decide +kernel
theorem d_Fl_follow_8 : decode b_Fl_follow 8 = .ok (.return_, 1) := by decide +kernel
theorem d_Fl_follow_9 : decode b_Fl_follow 9 = .ok (.aload_n 0, 1) := by decide +kernel
theorem d_Fl_follow_10 : decode b_Fl_follow 10 = .ok (.aload_n 0, 1) := by decide +kernel
theorem d_Fl_follow_11 : decode b_Fl_follow 11 = .ok (.getfield 41, 3) := by decide +kernel
theorem d_Fl_follow_14 : decode b_Fl_follow 14 = .ok (.invokevirtual 49, 3) := by decide +kernel
theorem d_Fl_follow_17 : decode b_Fl_follow 17 = .ok (.putfield 29, 3) := by decide +kernel
theorem d_Fl_follow_20 : decode b_Fl_follow 20 = .ok (.aload_n 0, 1) := by decide +kernel
theorem d_Fl_follow_21 : decode b_Fl_follow 21 = .ok (.aload_n 1, 1) := by decide +kernel
theorem d_Fl_follow_22 : decode b_Fl_follow 22 = .ok (.getfield 55, 3) := by decide +kernel
theorem d_Fl_follow_25 : decode b_Fl_follow 25 = .ok (.putfield 32, 3) := by decide +kernel
theorem d_Fl_follow_28 : decode b_Fl_follow 28 = .ok (.aload_n 0, 1) := by decide +kernel
theorem d_Fl_follow_29 : decode b_Fl_follow 29 = .ok (.aload_n 1, 1) := by decide +kernel
theorem d_Fl_follow_30 : decode b_Fl_follow 30 = .ok (.getfield 60, 3) := by decide +kernel
theorem d_Fl_follow_33 : decode b_Fl_follow 33 = .ok (.putfield 35, 3) := by decide +kernel
theorem d_Fl_follow_36 : decode b_Fl_follow 36 = .ok (.aload_n 0, 1) := by decide +kernel
theorem d_Fl_follow_37 : decode b_Fl_follow 37 = .ok (.aload_n 1, 1) := by decide +kernel
theorem d_Fl_follow_38 : decode b_Fl_follow 38 = .ok (.getfield 63, 3) := by decide +kernel
theorem d_Fl_follow_41 : decode b_Fl_follow 41 = .ok (.putfield 38, 3) := by decide +kernel
theorem d_Fl_follow_44 : decode b_Fl_follow 44 = .ok (.iconst 0, 1) := by decide +kernel
theorem d_Fl_follow_45 : decode b_Fl_follow 45 = .ok (.istore_n 2, 1) := by decide +kernel
theorem d_Fl_follow_46 : decode b_Fl_follow 46 = .ok (.iload_n 2, 1) := by decide +kernel
theorem d_Fl_follow_47 : decode b_Fl_follow 47 = .ok (.bipush 48, 2) := by decide +kernel
theorem d_Fl_follow_49 : decode b_Fl_follow 49 = .ok (.if_icmp .ge 23, 3) := by decide +kernel
theorem d_Fl_follow_52 : decode b_Fl_follow 52 = .ok (.aload_n 0, 1) := by decide +kernel
theorem d_Fl_follow_53 : decode b_Fl_follow 53 = .ok (.getfield 9, 3) := by decide +kernel
theorem d_Fl_follow_56 : decode b_Fl_follow 56 = .ok (.iload_n 2, 1) := by decide +kernel
theorem d_Fl_follow_57 : decode b_Fl_follow 57 = .ok (.lconst 0, 1) := by decide +kernel
theorem d_Fl_follow_58 : decode b_Fl_follow 58 = .ok (.lastore, 1) := by decide +kernel
theorem d_Fl_follow_59 : decode b_Fl_follow 59 = .ok (.aload_n 0, 1) := by decide +kernel
theorem d_Fl_follow_60 : decode b_Fl_follow 60 = .ok (.getfield 15, 3) := by decide +kernel
theorem d_Fl_follow_63 : decode b_Fl_follow 63 = .ok (.iload_n 2, 1) := by decide +kernel
theorem d_Fl_follow_64 : decode b_Fl_follow 64 = .ok (.lconst 0, 1) := by decide +kernel
theorem d_Fl_follow_65 : decode b_Fl_follow 65 = .ok (.lastore, 1) := by decide +kernel
theorem d_Fl_follow_66 : decode b_Fl_follow 66 = .ok (.iinc 2 1, 3) := by decide +kernel
theorem d_Fl_follow_69 : decode b_Fl_follow 69 = .ok (.goto (-23), 3) := by decide +kernel
theorem d_Fl_follow_72 : decode b_Fl_follow 72 = .ok (.aload_n 0, 1) := by decide +kernel
theorem d_Fl_follow_73 : decode b_Fl_follow 73 = .ok (.aload_n 1, 1) := by decide +kernel
theorem d_Fl_follow_74 : decode b_Fl_follow 74 = .ok (.invokevirtual 66, 3) := by decide +kernel
theorem d_Fl_follow_77 : decode b_Fl_follow 77 = .ok (.aload_n 0, 1) := by decide +kernel
theorem d_Fl_follow_78 : decode b_Fl_follow 78 = .ok (.aload_n 1, 1) := by decide +kernel
theorem d_Fl_follow_79 : decode b_Fl_follow 79 = .ok (.invokevirtual 70, 3) := by decide +kernel
theorem d_Fl_follow_82 : decode b_Fl_follow 82 = .ok (.aload_n 0, 1) := by decide +kernel
theorem d_Fl_follow_83 : decode b_Fl_follow 83 = .ok (.invokevirtual 73, 3) := by decide +kernel
theorem d_Fl_follow_86 : decode b_Fl_follow 86 = .ok (.aload_n 0, 1) := by decide +kernel
theorem d_Fl_follow_87 : decode b_Fl_follow 87 = .ok (.aload_n 0, 1) := by decide +kernel
theorem d_Fl_follow_88 : decode b_Fl_follow 88 = .ok (.getfield 9, 3) := by decide +kernel
theorem d_Fl_follow_91 : decode b_Fl_follow 91 = .ok (.iconst 0, 1) := by decide +kernel
theorem d_Fl_follow_92 : decode b_Fl_follow 92 = .ok (.invokestatic 76, 3) := by decide +kernel
theorem d_Fl_follow_95 : decode b_Fl_follow 95 = .ok (.putfield 18, 3) := by decide +kernel
theorem d_Fl_follow_98 : decode b_Fl_follow 98 = .ok (.aload_n 0, 1) := by decide +kernel
theorem d_Fl_follow_99 : decode b_Fl_follow 99 = .ok (.aload_n 0, 1) := by decide +kernel
theorem d_Fl_follow_100 : decode b_Fl_follow 100 = .ok (.getfield 15, 3) := by decide +kernel
theorem d_Fl_follow_103 : decode b_Fl_follow 103 = .ok (.iconst 1, 1) := by decide +kernel
theorem d_Fl_follow_104 : decode b_Fl_follow 104 = .ok (.invokestatic 76, 3) := by decide +kernel
theorem d_Fl_follow_107 : decode b_Fl_follow 107 = .ok (.putfield 22, 3) := by decide +kernel
theorem d_Fl_follow_110 : decode b_Fl_follow 110 = .ok (.return_, 1) := by decide +kernel
theorem d_Fl_isMadeFor_0 : decode b_Fl_isMadeFor 0 = .ok (.aload_n 0, 1) := by decide +kernel
theorem d_Fl_isMadeFor_1 : decode b_Fl_isMadeFor 1 = .ok (.getfield 29, 3) := by decide +kernel
theorem d_Fl_isMadeFor_4 : decode b_Fl_isMadeFor 4 = .ok (.aload_n 0, 1) := by decide +kernel
theorem d_Fl_isMadeFor_5 : decode b_Fl_isMadeFor 5 = .ok (.getfield 41, 3) := by decide +kernel
theorem d_Fl_isMadeFor_8 : decode b_Fl_isMadeFor 8 = .ok (.invokevirtual 49, 3) := by decide +kernel
theorem d_Fl_isMadeFor_11 : decode b_Fl_isMadeFor 11 = .ok (.if_icmp .ne 40, 3) := by decide +kernel
theorem d_Fl_isMadeFor_14 : decode b_Fl_isMadeFor 14 = .ok (.aload_n 0, 1) := by decide +kernel
theorem d_Fl_isMadeFor_15 : decode b_Fl_isMadeFor 15 = .ok (.getfield 32, 3) := by decide +kernel
theorem d_Fl_isMadeFor_18 : decode b_Fl_isMadeFor 18 = .ok (.aload_n 1, 1) := by decide +kernel
theorem d_Fl_isMadeFor_19 : decode b_Fl_isMadeFor 19 = .ok (.getfield 55, 3) := by decide +kernel
theorem d_Fl_isMadeFor_22 : decode b_Fl_isMadeFor 22 = .ok (.if_icmp .ne 29, 3) := by decide +kernel
theorem d_Fl_isMadeFor_25 : decode b_Fl_isMadeFor 25 = .ok (.aload_n 0, 1) := by decide +kernel
theorem d_Fl_isMadeFor_26 : decode b_Fl_isMadeFor 26 = .ok (.getfield 35, 3) := by decide +kernel
theorem d_Fl_isMadeFor_29 : decode b_Fl_isMadeFor 29 = .ok (.aload_n 1, 1) := by decide +kernel
theorem d_Fl_isMadeFor_30 : decode b_Fl_isMadeFor 30 = .ok (.getfield 60, 3) := by decide +kernel
theorem d_Fl_isMadeFor_33 : decode b_Fl_isMadeFor 33 = .ok (.if_icmp .ne 18, 3) := by decide +kernel
theorem d_Fl_isMadeFor_36 : decode b_Fl_isMadeFor 36 = .ok (.aload_n 0, 1) := by decide +kernel
theorem d_Fl_isMadeFor_37 : decode b_Fl_isMadeFor 37 = .ok (.getfield 38, 3) := by decide +kernel
theorem d_Fl_isMadeFor_40 : decode b_Fl_isMadeFor 40 = .ok (.aload_n 1, 1) := by decide +kernel
theorem d_Fl_isMadeFor_41 : decode b_Fl_isMadeFor 41 = .ok (.getfield 63, 3) := by decide +kernel
theorem d_Fl_isMadeFor_44 : decode b_Fl_isMadeFor 44 = .ok (.if_icmp .ne 7, 3) := by decide +kernel
theorem d_Fl_isMadeFor_47 : decode b_Fl_isMadeFor 47 = .ok (.iconst 1, 1) := by decide +kernel
theorem d_Fl_isMadeFor_48 : decode b_Fl_isMadeFor 48 = .ok (.goto 4, 3) := by decide +kernel
theorem d_Fl_isMadeFor_51 : decode b_Fl_isMadeFor 51 = .ok (.iconst 0, 1) := by decide +kernel
theorem d_Fl_isMadeFor_52 : decode b_Fl_isMadeFor 52 = .ok (.ireturn, 1) := by decide +kernel
theorem d_Fl_joinContacts_0 : decode b_Fl_joinContacts 0 = .ok (.aload_n 0, 1) := by decide +kernel
theorem d_Fl_joinContacts_1 : decode b_Fl_joinContacts 1 = .ok (.getfield 41, 3) := by decide +kernel
theorem d_Fl_joinContacts_4 : decode b_Fl_joinContacts 4 = .ok (.getfield 99, 3) := by decide +kernel
theorem d_Fl_joinContacts_7 : decode b_Fl_joinContacts 7 = .ok (.astore_n 2, 1) := by decide +kernel
theorem d_Fl_joinContacts_8 : decode b_Fl_joinContacts 8 = .ok (.aload_n 0, 1) := by decide +kernel
theorem d_Fl_joinContacts_9 : decode b_Fl_joinContacts 9 = .ok (.iconst 0, 1) := by decide +kernel
theorem d_Fl_joinContacts_10 : decode b_Fl_joinContacts 10 = .ok (.putfield 25, 3) := by decide +kernel
theorem d_Fl_joinContacts_13 : decode b_Fl_joinContacts 13 = .ok (.iconst 0, 1) := by decide +kernel
theorem d_Fl_joinContacts_14 : decode b_Fl_joinContacts 14 = .ok (.istore_n 3, 1) := by decide +kernel
theorem d_Fl_joinContacts_15 : decode b_Fl_joinContacts 15 = .ok (.iload_n 3, 1) := by decide +kernel
theorem d_Fl_joinContacts_16 : decode b_Fl_joinContacts 16 = .ok (.aload_n 2, 1) := by decide +kernel
theorem d_Fl_joinContacts_17 : decode b_Fl_joinContacts 17 = .ok (.getfield 80, 3) := by decide +kernel
theorem d_Fl_joinContacts_20 : decode b_Fl_joinContacts 20 = .ok (.if_icmp .ge 79, 3) := by decide +kernel
theorem d_Fl_joinContacts_23 : decode b_Fl_joinContacts 23 = .ok (.aload_n 1, 1) := by decide +kernel
theorem d_Fl_joinContacts_24 : decode b_Fl_joinContacts 24 = .ok (.aload_n 0, 1) := by decide +kernel
theorem d_Fl_joinContacts_25 : decode b_Fl_joinContacts 25 = .ok (.getfield 41, 3) := by decide +kernel
theorem d_Fl_joinContacts_28 : decode b_Fl_joinContacts 28 = .ok (.getfield 103, 3) := by decide +kernel
theorem d_Fl_joinContacts_31 : decode b_Fl_joinContacts 31 = .ok (.iload_n 3, 1) := by decide +kernel
theorem d_Fl_joinContacts_32 : decode b_Fl_joinContacts 32 = .ok (.iaload, 1) := by decide +kernel
theorem d_Fl_joinContacts_33 : decode b_Fl_joinContacts 33 = .ok (.invokevirtual 106, 3) := by decide +kernel
theorem d_Fl_joinContacts_36 : decode b_Fl_joinContacts 36 = .ok (.aload_n 0, 1) := by decide +kernel
theorem d_Fl_joinContacts_37 : decode b_Fl_joinContacts 37 = .ok (.getfield 41, 3) := by decide +kernel
theorem d_Fl_joinContacts_40 : decode b_Fl_joinContacts 40 = .ok (.getfield 110, 3) := by decide +kernel
theorem d_Fl_joinContacts_43 : decode b_Fl_joinContacts 43 = .ok (.iload_n 3, 1) := by decide +kernel
theorem d_Fl_joinContacts_44 : decode b_Fl_joinContacts 44 = .ok (.iaload, 1) := by decide +kernel
theorem d_Fl_joinContacts_45 : decode b_Fl_joinContacts 45 = .ok (.invokestatic 113, 3) := by decide +kernel
theorem d_Fl_joinContacts_48 : decode b_Fl_joinContacts 48 = .ok (.ifCond .eq 45, 3) := by decide +kernel
theorem d_Fl_joinContacts_51 : decode b_Fl_joinContacts 51 = .ok (.aload_n 0, 1) := by decide +kernel
theorem d_Fl_joinContacts_52 : decode b_Fl_joinContacts 52 = .ok (.aload_n 2, 1) := by decide +kernel
theorem d_Fl_joinContacts_53 : decode b_Fl_joinContacts 53 = .ok (.getfield 85, 3) := by decide +kernel
theorem d_Fl_joinContacts_56 : decode b_Fl_joinContacts 56 = .ok (.iload_n 3, 1) := by decide +kernel
theorem d_Fl_joinContacts_57 : decode b_Fl_joinContacts 57 = .ok (.iaload, 1) := by decide +kernel
theorem d_Fl_joinContacts_58 : decode b_Fl_joinContacts 58 = .ok (.aload_n 2, 1) := by decide +kernel
theorem d_Fl_joinContacts_59 : decode b_Fl_joinContacts 59 = .ok (.getfield 89, 3) := by decide +kernel
theorem d_Fl_joinContacts_62 : decode b_Fl_joinContacts 62 = .ok (.iload_n 3, 1) := by decide +kernel
theorem d_Fl_joinContacts_63 : decode b_Fl_joinContacts 63 = .ok (.iaload, 1) := by decide +kernel
theorem d_Fl_joinContacts_64 : decode b_Fl_joinContacts 64 = .ok (.invokevirtual 117, 3) := by decide +kernel
theorem d_Fl_joinContacts_67 : decode b_Fl_joinContacts 67 = .ok (.aload_n 0, 1) := by decide +kernel
theorem d_Fl_joinContacts_68 : decode b_Fl_joinContacts 68 = .ok (.aload_n 2, 1) := by decide +kernel
theorem d_Fl_joinContacts_69 : decode b_Fl_joinContacts 69 = .ok (.getfield 89, 3) := by decide +kernel
theorem d_Fl_joinContacts_72 : decode b_Fl_joinContacts 72 = .ok (.iload_n 3, 1) := by decide +kernel
theorem d_Fl_joinContacts_73 : decode b_Fl_joinContacts 73 = .ok (.iaload, 1) := by decide +kernel
theorem d_Fl_joinContacts_74 : decode b_Fl_joinContacts 74 = .ok (.aload_n 2, 1) := by decide +kernel
theorem d_Fl_joinContacts_75 : decode b_Fl_joinContacts 75 = .ok (.getfield 85, 3) := by decide +kernel
theorem d_Fl_joinContacts_78 : decode b_Fl_joinContacts 78 = .ok (.iload_n 3, 1) := by decide +kernel
theorem d_Fl_joinContacts_79 : decode b_Fl_joinContacts 79 = .ok (.iaload, 1) := by decide +kernel
theorem d_Fl_joinContacts_80 : decode b_Fl_joinContacts 80 = .ok (.invokevirtual 117, 3) := by decide +kernel
theorem d_Fl_joinContacts_83 : decode b_Fl_joinContacts 83 = .ok (.aload_n 0, 1) := by decide +kernel
theorem d_Fl_joinContacts_84 : decode b_Fl_joinContacts 84 = .ok (.dup, 1) := by decide +kernel
theorem d_Fl_joinContacts_85 : decode b_Fl_joinContacts 85 = .ok (.getfield 25, 3) := by decide +kernel
theorem d_Fl_joinContacts_88 : decode b_Fl_joinContacts 88 = .ok (.iconst 1, 1) := by decide +kernel
theorem d_Fl_joinContacts_89 : decode b_Fl_joinContacts 89 = .ok (.iadd, 1) := by decide +kernel
theorem d_Fl_joinContacts_90 : decode b_Fl_joinContacts 90 = .ok (.putfield 25, 3) := by decide +kernel
theorem d_Fl_joinContacts_93 : decode b_Fl_joinContacts 93 = .ok (.iinc 3 1, 3) := by decide +kernel
theorem d_Fl_joinContacts_96 : decode b_Fl_joinContacts 96 = .ok (.goto (-81), 3) := by decide +kernel
theorem d_Fl_joinContacts_99 : decode b_Fl_joinContacts 99 = .ok (.return_, 1) := by decide +kernel
theorem d_Fl_join_0 : decode b_Fl_join 0 = .ok (.aload_n 0, 1) := by decide +kernel
theorem d_Fl_join_1 : decode b_Fl_join 1 = .ok (.getfield 9, 3) := by decide +kernel
theorem d_Fl_join_4 : decode b_Fl_join 4 = .ok (.iload_n 1, 1) := by decide +kernel
theorem d_Fl_join_5 : decode b_Fl_join 5 = .ok (.dup2, 1) := by decide +kernel
theorem d_Fl_join_6 : decode b_Fl_join 6 = .ok (.laload, 1) := by decide +kernel
theorem d_Fl_join_7 : decode b_Fl_join 7 = .ok (.lconst 1, 1) := by decide +kernel
theorem d_Fl_join_8 : decode b_Fl_join 8 = .ok (.iload_n 2, 1) := by decide +kernel
theorem d_Fl_join_9 : decode b_Fl_join 9 = .ok (.lshl, 1) := by decide +kernel
theorem d_Fl_join_10 : decode b_Fl_join 10 = .ok (.lor, 1) := by decide +kernel
theorem d_Fl_join_11 : decode b_Fl_join 11 = .ok (.lastore, 1) := by decide +kernel
theorem d_Fl_join_12 : decode b_Fl_join 12 = .ok (.aload_n 0, 1) := by decide +kernel
theorem d_Fl_join_13 : decode b_Fl_join 13 = .ok (.getfield 15, 3) := by decide +kernel
theorem d_Fl_join_16 : decode b_Fl_join 16 = .ok (.iload_n 2, 1) := by decide +kernel
theorem d_Fl_join_17 : decode b_Fl_join 17 = .ok (.dup2, 1) := by decide +kernel
theorem d_Fl_join_18 : decode b_Fl_join 18 = .ok (.laload, 1) := by decide +kernel
theorem d_Fl_join_19 : decode b_Fl_join 19 = .ok (.lconst 1, 1) := by decide +kernel
theorem d_Fl_join_20 : decode b_Fl_join 20 = .ok (.iload_n 1, 1) := by decide +kernel
theorem d_Fl_join_21 : decode b_Fl_join 21 = .ok (.lshl, 1) := by decide +kernel
theorem d_Fl_join_22 : decode b_Fl_join 22 = .ok (.lor, 1) := by decide +kernel
theorem d_Fl_join_23 : decode b_Fl_join 23 = .ok (.lastore, 1) := by decide +kernel
theorem d_Fl_join_24 : decode b_Fl_join 24 = .ok (.return_, 1) := by decide +kernel
theorem d_Fl_joinKnobs_0 : decode b_Fl_joinKnobs 0 = .ok (.aload_n 0, 1) := by decide +kernel
theorem d_Fl_joinKnobs_1 : decode b_Fl_joinKnobs 1 = .ok (.getfield 41, 3) := by decide +kernel
theorem d_Fl_joinKnobs_4 : decode b_Fl_joinKnobs 4 = .ok (.getfield 121, 3) := by decide +kernel
theorem d_Fl_joinKnobs_7 : decode b_Fl_joinKnobs 7 = .ok (.astore_n 2, 1) := by decide +kernel
theorem d_Fl_joinKnobs_8 : decode b_Fl_joinKnobs 8 = .ok (.iconst 0, 1) := by decide +kernel
theorem d_Fl_joinKnobs_9 : decode b_Fl_joinKnobs 9 = .ok (.istore_n 3, 1) := by decide +kernel
theorem d_Fl_joinKnobs_10 : decode b_Fl_joinKnobs 10 = .ok (.iload_n 3, 1) := by decide +kernel
theorem d_Fl_joinKnobs_11 : decode b_Fl_joinKnobs 11 = .ok (.aload_n 2, 1) := by decide +kernel
theorem d_Fl_joinKnobs_12 : decode b_Fl_joinKnobs 12 = .ok (.getfield 80, 3) := by decide +kernel
theorem d_Fl_joinKnobs_15 : decode b_Fl_joinKnobs 15 = .ok (.if_icmp .ge 52, 3) := by decide +kernel
theorem d_Fl_joinKnobs_18 : decode b_Fl_joinKnobs 18 = .ok (.aload_n 1, 1) := by decide +kernel
theorem d_Fl_joinKnobs_19 : decode b_Fl_joinKnobs 19 = .ok (.getfield 63, 3) := by decide +kernel
theorem d_Fl_joinKnobs_22 : decode b_Fl_joinKnobs 22 = .ok (.iload_n 3, 1) := by decide +kernel
theorem d_Fl_joinKnobs_23 : decode b_Fl_joinKnobs 23 = .ok (.invokestatic 113, 3) := by decide +kernel
theorem d_Fl_joinKnobs_26 : decode b_Fl_joinKnobs 26 = .ok (.ifCond .eq 35, 3) := by decide +kernel
theorem d_Fl_joinKnobs_29 : decode b_Fl_joinKnobs 29 = .ok (.aload_n 0, 1) := by decide +kernel
theorem d_Fl_joinKnobs_30 : decode b_Fl_joinKnobs 30 = .ok (.aload_n 2, 1) := by decide +kernel
theorem d_Fl_joinKnobs_31 : decode b_Fl_joinKnobs 31 = .ok (.getfield 85, 3) := by decide +kernel
theorem d_Fl_joinKnobs_34 : decode b_Fl_joinKnobs 34 = .ok (.iload_n 3, 1) := by decide +kernel
theorem d_Fl_joinKnobs_35 : decode b_Fl_joinKnobs 35 = .ok (.iaload, 1) := by decide +kernel
theorem d_Fl_joinKnobs_36 : decode b_Fl_joinKnobs 36 = .ok (.aload_n 2, 1) := by decide +kernel
theorem d_Fl_joinKnobs_37 : decode b_Fl_joinKnobs 37 = .ok (.getfield 89, 3) := by decide +kernel
theorem d_Fl_joinKnobs_40 : decode b_Fl_joinKnobs 40 = .ok (.iload_n 3, 1) := by decide +kernel
theorem d_Fl_joinKnobs_41 : decode b_Fl_joinKnobs 41 = .ok (.iaload, 1) := by decide +kernel
theorem d_Fl_joinKnobs_42 : decode b_Fl_joinKnobs 42 = .ok (.invokevirtual 117, 3) := by decide +kernel
theorem d_Fl_joinKnobs_45 : decode b_Fl_joinKnobs 45 = .ok (.aload_n 0, 1) := by decide +kernel
theorem d_Fl_joinKnobs_46 : decode b_Fl_joinKnobs 46 = .ok (.aload_n 2, 1) := by decide +kernel
theorem d_Fl_joinKnobs_47 : decode b_Fl_joinKnobs 47 = .ok (.getfield 89, 3) := by decide +kernel
theorem d_Fl_joinKnobs_50 : decode b_Fl_joinKnobs 50 = .ok (.iload_n 3, 1) := by decide +kernel
theorem d_Fl_joinKnobs_51 : decode b_Fl_joinKnobs 51 = .ok (.iaload, 1) := by decide +kernel
theorem d_Fl_joinKnobs_52 : decode b_Fl_joinKnobs 52 = .ok (.aload_n 2, 1) := by decide +kernel
theorem d_Fl_joinKnobs_53 : decode b_Fl_joinKnobs 53 = .ok (.getfield 85, 3) := by decide +kernel
theorem d_Fl_joinKnobs_56 : decode b_Fl_joinKnobs 56 = .ok (.iload_n 3, 1) := by decide +kernel
theorem d_Fl_joinKnobs_57 : decode b_Fl_joinKnobs 57 = .ok (.iaload, 1) := by decide +kernel
theorem d_Fl_joinKnobs_58 : decode b_Fl_joinKnobs 58 = .ok (.invokevirtual 117, 3) := by decide +kernel
theorem d_Fl_joinKnobs_61 : decode b_Fl_joinKnobs 61 = .ok (.iinc 3 1, 3) := by decide +kernel
theorem d_Fl_joinKnobs_64 : decode b_Fl_joinKnobs 64 = .ok (.goto (-54), 3) := by decide +kernel
theorem d_Fl_joinKnobs_67 : decode b_Fl_joinKnobs 67 = .ok (.return_, 1) := by decide +kernel
theorem d_Fl_joinDiodes_0 : decode b_Fl_joinDiodes 0 = .ok (.aload_n 0, 1) := by decide +kernel
theorem d_Fl_joinDiodes_1 : decode b_Fl_joinDiodes 1 = .ok (.getfield 41, 3) := by decide +kernel
theorem d_Fl_joinDiodes_4 : decode b_Fl_joinDiodes 4 = .ok (.getfield 124, 3) := by decide +kernel
theorem d_Fl_joinDiodes_7 : decode b_Fl_joinDiodes 7 = .ok (.astore_n 1, 1) := by decide +kernel
theorem d_Fl_joinDiodes_8 : decode b_Fl_joinDiodes 8 = .ok (.iconst 0, 1) := by decide +kernel
theorem d_Fl_joinDiodes_9 : decode b_Fl_joinDiodes 9 = .ok (.istore_n 2, 1) := by decide +kernel
theorem d_Fl_joinDiodes_10 : decode b_Fl_joinDiodes 10 = .ok (.iload_n 2, 1) := by decide +kernel
theorem d_Fl_joinDiodes_11 : decode b_Fl_joinDiodes 11 = .ok (.aload_n 1, 1) := by decide +kernel
theorem d_Fl_joinDiodes_12 : decode b_Fl_joinDiodes 12 = .ok (.getfield 80, 3) := by decide +kernel
theorem d_Fl_joinDiodes_15 : decode b_Fl_joinDiodes 15 = .ok (.if_icmp .ge 25, 3) := by decide +kernel
theorem d_Fl_joinDiodes_18 : decode b_Fl_joinDiodes 18 = .ok (.aload_n 0, 1) := by decide +kernel
theorem d_Fl_joinDiodes_19 : decode b_Fl_joinDiodes 19 = .ok (.aload_n 1, 1) := by decide +kernel
theorem d_Fl_joinDiodes_20 : decode b_Fl_joinDiodes 20 = .ok (.getfield 85, 3) := by decide +kernel
theorem d_Fl_joinDiodes_23 : decode b_Fl_joinDiodes 23 = .ok (.iload_n 2, 1) := by decide +kernel
theorem d_Fl_joinDiodes_24 : decode b_Fl_joinDiodes 24 = .ok (.iaload, 1) := by decide +kernel
theorem d_Fl_joinDiodes_25 : decode b_Fl_joinDiodes 25 = .ok (.aload_n 1, 1) := by decide +kernel
theorem d_Fl_joinDiodes_26 : decode b_Fl_joinDiodes 26 = .ok (.getfield 89, 3) := by decide +kernel
theorem d_Fl_joinDiodes_29 : decode b_Fl_joinDiodes 29 = .ok (.iload_n 2, 1) := by decide +kernel
theorem d_Fl_joinDiodes_30 : decode b_Fl_joinDiodes 30 = .ok (.iaload, 1) := by decide +kernel
theorem d_Fl_joinDiodes_31 : decode b_Fl_joinDiodes 31 = .ok (.invokevirtual 117, 3) := by decide +kernel
theorem d_Fl_joinDiodes_34 : decode b_Fl_joinDiodes 34 = .ok (.iinc 2 1, 3) := by decide +kernel
theorem d_Fl_joinDiodes_37 : decode b_Fl_joinDiodes 37 = .ok (.goto (-27), 3) := by decide +kernel
theorem d_Fl_joinDiodes_40 : decode b_Fl_joinDiodes 40 = .ok (.return_, 1) := by decide +kernel
theorem d_Fl_reach_0 : decode b_Fl_reach 0 = .ok (.lconst 1, 1) := by decide +kernel
theorem d_Fl_reach_1 : decode b_Fl_reach 1 = .ok (.iload_n 1, 1) := by decide +kernel
theorem d_Fl_reach_2 : decode b_Fl_reach 2 = .ok (.lshl, 1) := by decide +kernel
theorem d_Fl_reach_3 : decode b_Fl_reach 3 = .ok (.lstore_n 2, 1) := by decide +kernel
theorem d_Fl_reach_4 : decode b_Fl_reach 4 = .ok (.lload_n 2, 1) := by decide +kernel
theorem d_Fl_reach_5 : decode b_Fl_reach 5 = .ok (.lstore 4, 2) := by decide +kernel
theorem d_Fl_reach_7 : decode b_Fl_reach 7 = .ok (.iconst 0, 1) := by decide +kernel
theorem d_Fl_reach_8 : decode b_Fl_reach 8 = .ok (.istore 6, 2) := by decide +kernel
theorem d_Fl_reach_10 : decode b_Fl_reach 10 = .ok (.iload 6, 2) := by decide +kernel
theorem d_Fl_reach_12 : decode b_Fl_reach 12 = .ok (.bipush 48, 2) := by decide +kernel
theorem d_Fl_reach_14 : decode b_Fl_reach 14 = .ok (.if_icmp .ge 52, 3) := by decide +kernel
theorem d_Fl_reach_17 : decode b_Fl_reach 17 = .ok (.lload 4, 2) := by decide +kernel
theorem d_Fl_reach_19 : decode b_Fl_reach 19 = .ok (.lconst 0, 1) := by decide +kernel
theorem d_Fl_reach_20 : decode b_Fl_reach 20 = .ok (.lcmp, 1) := by decide +kernel
theorem d_Fl_reach_21 : decode b_Fl_reach 21 = .ok (.ifCond .eq 45, 3) := by decide +kernel
theorem d_Fl_reach_24 : decode b_Fl_reach 24 = .ok (.lload 4, 2) := by decide +kernel
theorem d_Fl_reach_26 : decode b_Fl_reach 26 = .ok (.invokestatic 127, 3) := by decide +kernel
theorem d_Fl_reach_29 : decode b_Fl_reach 29 = .ok (.istore 7, 2) := by decide +kernel
theorem d_Fl_reach_31 : decode b_Fl_reach 31 = .ok (.aload_n 0, 1) := by decide +kernel
theorem d_Fl_reach_32 : decode b_Fl_reach 32 = .ok (.iload 7, 2) := by decide +kernel
theorem d_Fl_reach_34 : decode b_Fl_reach 34 = .ok (.laload, 1) := by decide +kernel
theorem d_Fl_reach_35 : decode b_Fl_reach 35 = .ok (.lload_n 2, 1) := by decide +kernel
theorem d_Fl_reach_36 : decode b_Fl_reach 36 = .ok (.ldc2_w 133, 3) := by decide +kernel
theorem d_Fl_reach_39 : decode b_Fl_reach 39 = .ok (.lxor, 1) := by decide +kernel
theorem d_Fl_reach_40 : decode b_Fl_reach 40 = .ok (.land, 1) := by decide +kernel
theorem d_Fl_reach_41 : decode b_Fl_reach 41 = .ok (.lstore 8, 2) := by decide +kernel
theorem d_Fl_reach_43 : decode b_Fl_reach 43 = .ok (.lload_n 2, 1) := by decide +kernel
theorem d_Fl_reach_44 : decode b_Fl_reach 44 = .ok (.lload 8, 2) := by decide +kernel
theorem d_Fl_reach_46 : decode b_Fl_reach 46 = .ok (.lor, 1) := by decide +kernel
theorem d_Fl_reach_47 : decode b_Fl_reach 47 = .ok (.lstore_n 2, 1) := by decide +kernel
theorem d_Fl_reach_48 : decode b_Fl_reach 48 = .ok (.lload 4, 2) := by decide +kernel
theorem d_Fl_reach_50 : decode b_Fl_reach 50 = .ok (.lload 4, 2) := by decide +kernel
theorem d_Fl_reach_52 : decode b_Fl_reach 52 = .ok (.lconst 1, 1) := by decide +kernel
theorem d_Fl_reach_53 : decode b_Fl_reach 53 = .ok (.lsub, 1) := by decide +kernel
theorem d_Fl_reach_54 : decode b_Fl_reach 54 = .ok (.land, 1) := by decide +kernel
theorem d_Fl_reach_55 : decode b_Fl_reach 55 = .ok (.lload 8, 2) := by decide +kernel
theorem d_Fl_reach_57 : decode b_Fl_reach 57 = .ok (.lor, 1) := by decide +kernel
theorem d_Fl_reach_58 : decode b_Fl_reach 58 = .ok (.lstore 4, 2) := by decide +kernel
theorem d_Fl_reach_60 : decode b_Fl_reach 60 = .ok (.iinc 6 1, 3) := by decide +kernel
theorem d_Fl_reach_63 : decode b_Fl_reach 63 = .ok (.goto (-53), 3) := by decide +kernel
theorem d_Fl_reach_66 : decode b_Fl_reach 66 = .ok (.lload_n 2, 1) := by decide +kernel
theorem d_Fl_reach_67 : decode b_Fl_reach 67 = .ok (.lreturn, 1) := by decide +kernel
theorem d_Fl_between_0 : decode b_Fl_between 0 = .ok (.iconst 0, 1) := by decide +kernel
theorem d_Fl_between_1 : decode b_Fl_between 1 = .ok (.istore_n 2, 1) := by decide +kernel
theorem d_Fl_between_2 : decode b_Fl_between 2 = .ok (.iconst 0, 1) := by decide +kernel
theorem d_Fl_between_3 : decode b_Fl_between 3 = .ok (.istore_n 3, 1) := by decide +kernel
theorem d_Fl_between_4 : decode b_Fl_between 4 = .ok (.iload_n 3, 1) := by decide +kernel
theorem d_Fl_between_5 : decode b_Fl_between 5 = .ok (.aload_n 1, 1) := by decide +kernel
theorem d_Fl_between_6 : decode b_Fl_between 6 = .ok (.getfield 80, 3) := by decide +kernel
theorem d_Fl_between_9 : decode b_Fl_between 9 = .ok (.if_icmp .ge 67, 3) := by decide +kernel
theorem d_Fl_between_12 : decode b_Fl_between 12 = .ok (.aload_n 1, 1) := by decide +kernel
theorem d_Fl_between_13 : decode b_Fl_between 13 = .ok (.getfield 85, 3) := by decide +kernel
theorem d_Fl_between_16 : decode b_Fl_between 16 = .ok (.iload_n 3, 1) := by decide +kernel
theorem d_Fl_between_17 : decode b_Fl_between 17 = .ok (.iaload, 1) := by decide +kernel
theorem d_Fl_between_18 : decode b_Fl_between 18 = .ok (.istore 4, 2) := by decide +kernel
theorem d_Fl_between_20 : decode b_Fl_between 20 = .ok (.aload_n 1, 1) := by decide +kernel
theorem d_Fl_between_21 : decode b_Fl_between 21 = .ok (.getfield 89, 3) := by decide +kernel
theorem d_Fl_between_24 : decode b_Fl_between 24 = .ok (.iload_n 3, 1) := by decide +kernel
theorem d_Fl_between_25 : decode b_Fl_between 25 = .ok (.iaload, 1) := by decide +kernel
theorem d_Fl_between_26 : decode b_Fl_between 26 = .ok (.istore 5, 2) := by decide +kernel
theorem d_Fl_between_28 : decode b_Fl_between 28 = .ok (.aload_n 0, 1) := by decide +kernel
theorem d_Fl_between_29 : decode b_Fl_between 29 = .ok (.iload 4, 2) := by decide +kernel
theorem d_Fl_between_31 : decode b_Fl_between 31 = .ok (.invokevirtual 92, 3) := by decide +kernel
theorem d_Fl_between_34 : decode b_Fl_between 34 = .ok (.ifCond .eq 12, 3) := by decide +kernel
theorem d_Fl_between_37 : decode b_Fl_between 37 = .ok (.aload_n 0, 1) := by decide +kernel
theorem d_Fl_between_38 : decode b_Fl_between 38 = .ok (.iload 5, 2) := by decide +kernel
theorem d_Fl_between_40 : decode b_Fl_between 40 = .ok (.invokevirtual 96, 3) := by decide +kernel
theorem d_Fl_between_43 : decode b_Fl_between 43 = .ok (.ifCond .ne 21, 3) := by decide +kernel
theorem d_Fl_between_46 : decode b_Fl_between 46 = .ok (.aload_n 0, 1) := by decide +kernel
theorem d_Fl_between_47 : decode b_Fl_between 47 = .ok (.iload 5, 2) := by decide +kernel
theorem d_Fl_between_49 : decode b_Fl_between 49 = .ok (.invokevirtual 92, 3) := by decide +kernel
theorem d_Fl_between_52 : decode b_Fl_between 52 = .ok (.ifCond .eq 18, 3) := by decide +kernel
theorem d_Fl_between_55 : decode b_Fl_between 55 = .ok (.aload_n 0, 1) := by decide +kernel
theorem d_Fl_between_56 : decode b_Fl_between 56 = .ok (.iload 4, 2) := by decide +kernel
theorem d_Fl_between_58 : decode b_Fl_between 58 = .ok (.invokevirtual 96, 3) := by decide +kernel
theorem d_Fl_between_61 : decode b_Fl_between 61 = .ok (.ifCond .eq 9, 3) := by decide +kernel
theorem d_Fl_between_64 : decode b_Fl_between 64 = .ok (.iload_n 2, 1) := by decide +kernel
theorem d_Fl_between_65 : decode b_Fl_between 65 = .ok (.iconst 1, 1) := by decide +kernel
theorem d_Fl_between_66 : decode b_Fl_between 66 = .ok (.iload_n 3, 1) := by decide +kernel
theorem d_Fl_between_67 : decode b_Fl_between 67 = .ok (.ishl, 1) := by decide +kernel
theorem d_Fl_between_68 : decode b_Fl_between 68 = .ok (.ior, 1) := by decide +kernel
theorem d_Fl_between_69 : decode b_Fl_between 69 = .ok (.istore_n 2, 1) := by decide +kernel
theorem d_Fl_between_70 : decode b_Fl_between 70 = .ok (.iinc 3 1, 3) := by decide +kernel
theorem d_Fl_between_73 : decode b_Fl_between 73 = .ok (.goto (-69), 3) := by decide +kernel
theorem d_Fl_between_76 : decode b_Fl_between 76 = .ok (.iload_n 2, 1) := by decide +kernel
theorem d_Fl_between_77 : decode b_Fl_between 77 = .ok (.ireturn, 1) := by decide +kernel
theorem d_Fl_isHot_0 : decode b_Fl_isHot 0 = .ok (.aload_n 0, 1) := by decide +kernel
theorem d_Fl_isHot_1 : decode b_Fl_isHot 1 = .ok (.getfield 18, 3) := by decide +kernel
theorem d_Fl_isHot_4 : decode b_Fl_isHot 4 = .ok (.iload_n 1, 1) := by decide +kernel
theorem d_Fl_isHot_5 : decode b_Fl_isHot 5 = .ok (.lshr, 1) := by decide +kernel
theorem d_Fl_isHot_6 : decode b_Fl_isHot 6 = .ok (.lconst 1, 1) := by decide +kernel
theorem d_Fl_isHot_7 : decode b_Fl_isHot 7 = .ok (.land, 1) := by decide +kernel
theorem d_Fl_isHot_8 : decode b_Fl_isHot 8 = .ok (.lconst 0, 1) := by decide +kernel
theorem d_Fl_isHot_9 : decode b_Fl_isHot 9 = .ok (.lcmp, 1) := by decide +kernel
theorem d_Fl_isHot_10 : decode b_Fl_isHot 10 = .ok (.ifCond .eq 7, 3) := by decide +kernel
theorem d_Fl_isHot_13 : decode b_Fl_isHot 13 = .ok (.iconst 1, 1) := by decide +kernel
theorem d_Fl_isHot_14 : decode b_Fl_isHot 14 = .ok (.goto 4, 3) := by decide +kernel
theorem d_Fl_isHot_17 : decode b_Fl_isHot 17 = .ok (.iconst 0, 1) := by decide +kernel
theorem d_Fl_isHot_18 : decode b_Fl_isHot 18 = .ok (.ireturn, 1) := by decide +kernel
theorem d_Fl_isCold_0 : decode b_Fl_isCold 0 = .ok (.aload_n 0, 1) := by decide +kernel
theorem d_Fl_isCold_1 : decode b_Fl_isCold 1 = .ok (.getfield 22, 3) := by decide +kernel
theorem d_Fl_isCold_4 : decode b_Fl_isCold 4 = .ok (.iload_n 1, 1) := by decide +kernel
theorem d_Fl_isCold_5 : decode b_Fl_isCold 5 = .ok (.lshr, 1) := by decide +kernel
theorem d_Fl_isCold_6 : decode b_Fl_isCold 6 = .ok (.lconst 1, 1) := by decide +kernel
theorem d_Fl_isCold_7 : decode b_Fl_isCold 7 = .ok (.land, 1) := by decide +kernel
theorem d_Fl_isCold_8 : decode b_Fl_isCold 8 = .ok (.lconst 0, 1) := by decide +kernel
theorem d_Fl_isCold_9 : decode b_Fl_isCold 9 = .ok (.lcmp, 1) := by decide +kernel
theorem d_Fl_isCold_10 : decode b_Fl_isCold 10 = .ok (.ifCond .eq 7, 3) := by decide +kernel
theorem d_Fl_isCold_13 : decode b_Fl_isCold 13 = .ok (.iconst 1, 1) := by decide +kernel
theorem d_Fl_isCold_14 : decode b_Fl_isCold 14 = .ok (.goto 4, 3) := by decide +kernel
theorem d_Fl_isCold_17 : decode b_Fl_isCold 17 = .ok (.iconst 0, 1) := by decide +kernel
theorem d_Fl_isCold_18 : decode b_Fl_isCold 18 = .ok (.ireturn, 1) := by decide +kernel
theorem d_Fl_reaches_0 : decode b_Fl_reaches 0 = .ok (.aload_n 0, 1) := by decide +kernel
theorem d_Fl_reaches_1 : decode b_Fl_reaches 1 = .ok (.getfield 9, 3) := by decide +kernel
theorem d_Fl_reaches_4 : decode b_Fl_reaches 4 = .ok (.iload_n 1, 1) := by decide +kernel
theorem d_Fl_reaches_5 : decode b_Fl_reaches 5 = .ok (.invokestatic 76, 3) := by decide +kernel
theorem d_Fl_reaches_8 : decode b_Fl_reaches 8 = .ok (.iload_n 2, 1) := by decide +kernel
theorem d_Fl_reaches_9 : decode b_Fl_reaches 9 = .ok (.lshr, 1) := by decide +kernel
theorem d_Fl_reaches_10 : decode b_Fl_reaches 10 = .ok (.lconst 1, 1) := by decide +kernel
theorem d_Fl_reaches_11 : decode b_Fl_reaches 11 = .ok (.land, 1) := by decide +kernel
theorem d_Fl_reaches_12 : decode b_Fl_reaches 12 = .ok (.lconst 0, 1) := by decide +kernel
theorem d_Fl_reaches_13 : decode b_Fl_reaches 13 = .ok (.lcmp, 1) := by decide +kernel
theorem d_Fl_reaches_14 : decode b_Fl_reaches 14 = .ok (.ifCond .eq 7, 3) := by decide +kernel
theorem d_Fl_reaches_17 : decode b_Fl_reaches 17 = .ok (.iconst 1, 1) := by decide +kernel
theorem d_Fl_reaches_18 : decode b_Fl_reaches 18 = .ok (.goto 4, 3) := by decide +kernel
theorem d_Fl_reaches_21 : decode b_Fl_reaches 21 = .ok (.iconst 0, 1) := by decide +kernel
theorem d_Fl_reaches_22 : decode b_Fl_reaches 22 = .ok (.ireturn, 1) := by decide +kernel
