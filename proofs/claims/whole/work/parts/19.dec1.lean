theorem d_U_hold_50 : decode b_U_hold 50 = .ok (.aload_n 0, 1) := by decide +kernel
theorem d_U_hold_51 : decode b_U_hold 51 = .ok (.getfield 126, 3) := by decide +kernel
theorem d_U_hold_54 : decode b_U_hold 54 = .ok (.iload_n 3, 1) := by decide +kernel
theorem d_U_hold_55 : decode b_U_hold 55 = .ok (.iastore, 1) := by decide +kernel
theorem d_U_hold_56 : decode b_U_hold 56 = .ok (.aload_n 0, 1) := by decide +kernel
theorem d_U_hold_57 : decode b_U_hold 57 = .ok (.getfield 74, 3) := by decide +kernel
theorem d_U_hold_60 : decode b_U_hold 60 = .ok (.aload_n 0, 1) := by decide +kernel
theorem d_U_hold_61 : decode b_U_hold 61 = .ok (.getfield 126, 3) := by decide +kernel
theorem d_U_hold_64 : decode b_U_hold 64 = .ok (.iload 4, 2) := by decide +kernel
theorem d_U_hold_66 : decode b_U_hold 66 = .ok (.iastore, 1) := by decide +kernel
theorem d_U_hold_67 : decode b_U_hold 67 = .ok (.aload_n 0, 1) := by decide +kernel
theorem d_U_hold_68 : decode b_U_hold 68 = .ok (.getfield 77, 3) := by decide +kernel
theorem d_U_hold_71 : decode b_U_hold 71 = .ok (.aload_n 0, 1) := by decide +kernel
theorem d_U_hold_72 : decode b_U_hold 72 = .ok (.getfield 126, 3) := by decide +kernel
theorem d_U_hold_75 : decode b_U_hold 75 = .ok (.iload 5, 2) := by decide +kernel
theorem d_U_hold_77 : decode b_U_hold 77 = .ok (.iastore, 1) := by decide +kernel
theorem d_U_hold_78 : decode b_U_hold 78 = .ok (.aload_n 0, 1) := by decide +kernel
theorem d_U_hold_79 : decode b_U_hold 79 = .ok (.getfield 80, 3) := by decide +kernel
theorem d_U_hold_82 : decode b_U_hold 82 = .ok (.aload_n 0, 1) := by decide +kernel
theorem d_U_hold_83 : decode b_U_hold 83 = .ok (.getfield 126, 3) := by decide +kernel
theorem d_U_hold_86 : decode b_U_hold 86 = .ok (.iload 6, 2) := by decide +kernel
theorem d_U_hold_88 : decode b_U_hold 88 = .ok (.iastore, 1) := by decide +kernel
theorem d_U_hold_89 : decode b_U_hold 89 = .ok (.aload_n 0, 1) := by decide +kernel
theorem d_U_hold_90 : decode b_U_hold 90 = .ok (.dup, 1) := by decide +kernel
theorem d_U_hold_91 : decode b_U_hold 91 = .ok (.getfield 126, 3) := by decide +kernel
theorem d_U_hold_94 : decode b_U_hold 94 = .ok (.iconst 1, 1) := by decide +kernel
theorem d_U_hold_95 : decode b_U_hold 95 = .ok (.iadd, 1) := by decide +kernel
theorem d_U_hold_96 : decode b_U_hold 96 = .ok (.putfield 126, 3) := by decide +kernel
theorem d_U_hold_99 : decode b_U_hold 99 = .ok (.return_, 1) := by decide +kernel
theorem d_U_send_0 : decode b_U_send 0 = .ok (.iload_n 1, 1) := by decide +kernel
theorem d_U_send_1 : decode b_U_send 1 = .ok (.istore 7, 2) := by decide +kernel
theorem d_U_send_3 : decode b_U_send 3 = .ok (.iload_n 2, 1) := by decide +kernel
theorem d_U_send_4 : decode b_U_send 4 = .ok (.istore 8, 2) := by decide +kernel
theorem d_U_send_6 : decode b_U_send 6 = .ok (.iload_n 3, 1) := by decide +kernel
theorem d_U_send_7 : decode b_U_send 7 = .ok (.istore 9, 2) := by decide +kernel
theorem d_U_send_9 : decode b_U_send 9 = .ok (.iload 4, 2) := by decide +kernel
theorem d_U_send_11 : decode b_U_send 11 = .ok (.istore 10, 2) := by decide +kernel
theorem d_U_send_13 : decode b_U_send 13 = .ok (.iload 7, 2) := by decide +kernel
theorem d_U_send_15 : decode b_U_send 15 = .ok (.ifCond .eq 78, 3) := by decide +kernel
theorem d_U_send_18 : decode b_U_send 18 = .ok (.iload 8, 2) := by decide +kernel
theorem d_U_send_20 : decode b_U_send 20 = .ok (.iconst 4, 1) := by decide +kernel
theorem d_U_send_21 : decode b_U_send 21 = .ok (.idiv, 1) := by decide +kernel
theorem d_U_send_22 : decode b_U_send 22 = .ok (.iload 9, 2) := by decide +kernel
theorem d_U_send_24 : decode b_U_send 24 = .ok (.iconst 4, 1) := by decide +kernel
theorem d_U_send_25 : decode b_U_send 25 = .ok (.idiv, 1) := by decide +kernel
theorem d_U_send_26 : decode b_U_send 26 = .ok (.if_icmp .eq 27, 3) := by decide +kernel
theorem d_U_send_29 : decode b_U_send 29 = .ok (.aload_n 0, 1) := by decide +kernel
theorem d_U_send_30 : decode b_U_send 30 = .ok (.getfield 83, 3) := by decide +kernel
theorem d_U_send_33 : decode b_U_send 33 = .ok (.ifCond .ne 20, 3) := by decide +kernel
theorem d_U_send_36 : decode b_U_send 36 = .ok (.aload_n 0, 1) := by decide +kernel
theorem d_U_send_37 : decode b_U_send 37 = .ok (.iload 7, 2) := by decide +kernel
theorem d_U_send_39 : decode b_U_send 39 = .ok (.iload 8, 2) := by decide +kernel
theorem d_U_send_41 : decode b_U_send 41 = .ok (.iload 9, 2) := by decide +kernel
theorem d_U_send_43 : decode b_U_send 43 = .ok (.iload 10, 2) := by decide +kernel
theorem d_U_send_45 : decode b_U_send 45 = .ok (.iload 5, 2) := by decide +kernel
theorem d_U_send_47 : decode b_U_send 47 = .ok (.iload 6, 2) := by decide +kernel
theorem d_U_send_49 : decode b_U_send 49 = .ok (.invokevirtual 129, 3) := by decide +kernel
theorem d_U_send_52 : decode b_U_send 52 = .ok (.return_, 1) := by decide +kernel
theorem d_U_send_53 : decode b_U_send 53 = .ok (.aload_n 0, 1) := by decide +kernel
theorem d_U_send_54 : decode b_U_send 54 = .ok (.iload 7, 2) := by decide +kernel
theorem d_U_send_56 : decode b_U_send 56 = .ok (.iload 8, 2) := by decide +kernel
theorem d_U_send_58 : decode b_U_send 58 = .ok (.iload 9, 2) := by decide +kernel
theorem d_U_send_60 : decode b_U_send 60 = .ok (.iload 10, 2) := by decide +kernel
theorem d_U_send_62 : decode b_U_send 62 = .ok (.iload 5, 2) := by decide +kernel
theorem d_U_send_64 : decode b_U_send 64 = .ok (.iload 6, 2) := by decide +kernel
theorem d_U_send_66 : decode b_U_send 66 = .ok (.invokevirtual 133, 3) := by decide +kernel
theorem d_U_send_69 : decode b_U_send 69 = .ok (.aload_n 0, 1) := by decide +kernel
theorem d_U_send_70 : decode b_U_send 70 = .ok (.getfield 112, 3) := by decide +kernel
theorem d_U_send_73 : decode b_U_send 73 = .ok (.istore 7, 2) := by decide +kernel
theorem d_U_send_75 : decode b_U_send 75 = .ok (.iload 8, 2) := by decide +kernel
theorem d_U_send_77 : decode b_U_send 77 = .ok (.istore 11, 2) := by decide +kernel
theorem d_U_send_79 : decode b_U_send 79 = .ok (.iload 9, 2) := by decide +kernel
theorem d_U_send_81 : decode b_U_send 81 = .ok (.istore 8, 2) := by decide +kernel
theorem d_U_send_83 : decode b_U_send 83 = .ok (.iload 11, 2) := by decide +kernel
theorem d_U_send_85 : decode b_U_send 85 = .ok (.istore 9, 2) := by decide +kernel
theorem d_U_send_87 : decode b_U_send 87 = .ok (.iconst (-1), 1) := by decide +kernel
theorem d_U_send_88 : decode b_U_send 88 = .ok (.istore 10, 2) := by decide +kernel
theorem d_U_send_90 : decode b_U_send 90 = .ok (.goto (-77), 3) := by decide +kernel
theorem d_U_send_93 : decode b_U_send 93 = .ok (.return_, 1) := by decide +kernel
theorem d_U_register_0 : decode b_U_register 0 = .ok (.aload_n 0, 1) := by decide +kernel
theorem d_U_register_1 : decode b_U_register 1 = .ok (.iconst 0, 1) := by decide +kernel
theorem d_U_register_2 : decode b_U_register 2 = .ok (.putfield 87, 3) := by decide +kernel
theorem d_U_register_5 : decode b_U_register 5 = .ok (.iload_n 1, 1) := by decide +kernel
theorem d_U_register_6 : decode b_U_register 6 = .ok (.invokestatic 136, 3) := by decide +kernel
theorem d_U_register_9 : decode b_U_register 9 = .ok (.ifCond .eq 14, 3) := by decide +kernel
theorem d_U_register_12 : decode b_U_register 12 = .ok (.iload_n 2, 1) := by decide +kernel
theorem d_U_register_13 : decode b_U_register 13 = .ok (.iconst 0, 1) := by decide +kernel
theorem d_U_register_14 : decode b_U_register 14 = .ok (.sipush 9999, 3) := by decide +kernel
theorem d_U_register_17 : decode b_U_register 17 = .ok (.invokestatic 91, 3) := by decide +kernel
theorem d_U_register_20 : decode b_U_register 20 = .ok (.ifCond .ne 9, 3) := by decide +kernel
theorem d_U_register_23 : decode b_U_register 23 = .ok (.aload_n 0, 1) := by decide +kernel
theorem d_U_register_24 : decode b_U_register 24 = .ok (.iconst 1, 1) := by decide +kernel
theorem d_U_register_25 : decode b_U_register 25 = .ok (.invokevirtual 140, 3) := by decide +kernel
theorem d_U_register_28 : decode b_U_register 28 = .ok (.ireturn, 1) := by decide +kernel
theorem d_U_register_29 : decode b_U_register 29 = .ok (.aload_n 0, 1) := by decide +kernel
theorem d_U_register_30 : decode b_U_register 30 = .ok (.getfield 7, 3) := by decide +kernel
theorem d_U_register_33 : decode b_U_register 33 = .ok (.iload_n 1, 1) := by decide +kernel
theorem d_U_register_34 : decode b_U_register 34 = .ok (.baload, 1) := by decide +kernel
theorem d_U_register_35 : decode b_U_register 35 = .ok (.ifCond .eq 9, 3) := by decide +kernel
theorem d_U_register_38 : decode b_U_register 38 = .ok (.aload_n 0, 1) := by decide +kernel
theorem d_U_register_39 : decode b_U_register 39 = .ok (.iconst 2, 1) := by decide +kernel
theorem d_U_register_40 : decode b_U_register 40 = .ok (.invokevirtual 140, 3) := by decide +kernel
theorem d_U_register_43 : decode b_U_register 43 = .ok (.ireturn, 1) := by decide +kernel
theorem d_U_register_44 : decode b_U_register 44 = .ok (.aload_n 0, 1) := by decide +kernel
theorem d_U_register_45 : decode b_U_register 45 = .ok (.getfield 7, 3) := by decide +kernel
theorem d_U_register_48 : decode b_U_register 48 = .ok (.iload_n 1, 1) := by decide +kernel
theorem d_U_register_49 : decode b_U_register 49 = .ok (.iconst 1, 1) := by decide +kernel
theorem d_U_register_50 : decode b_U_register 50 = .ok (.bastore, 1) := by decide +kernel
theorem d_U_register_51 : decode b_U_register 51 = .ok (.aload_n 0, 1) := by decide +kernel
theorem d_U_register_52 : decode b_U_register 52 = .ok (.getfield 13, 3) := by decide +kernel
theorem d_U_register_55 : decode b_U_register 55 = .ok (.iload_n 1, 1) := by decide +kernel
theorem d_U_register_56 : decode b_U_register 56 = .ok (.iload_n 2, 1) := by decide +kernel
theorem d_U_register_57 : decode b_U_register 57 = .ok (.iastore, 1) := by decide +kernel
theorem d_U_register_58 : decode b_U_register 58 = .ok (.iconst 1, 1) := by decide +kernel
theorem d_U_register_59 : decode b_U_register 59 = .ok (.ireturn, 1) := by decide +kernel
theorem d_U_connect_0 : decode b_U_connect 0 = .ok (.aload_n 0, 1) := by decide +kernel
theorem d_U_connect_1 : decode b_U_connect 1 = .ok (.iconst 0, 1) := by decide +kernel
theorem d_U_connect_2 : decode b_U_connect 2 = .ok (.putfield 87, 3) := by decide +kernel
theorem d_U_connect_5 : decode b_U_connect 5 = .ok (.iload_n 1, 1) := by decide +kernel
theorem d_U_connect_6 : decode b_U_connect 6 = .ok (.invokestatic 144, 3) := by decide +kernel
theorem d_U_connect_9 : decode b_U_connect 9 = .ok (.ifCond .ne 9, 3) := by decide +kernel
theorem d_U_connect_12 : decode b_U_connect 12 = .ok (.aload_n 0, 1) := by decide +kernel
theorem d_U_connect_13 : decode b_U_connect 13 = .ok (.iconst 1, 1) := by decide +kernel
theorem d_U_connect_14 : decode b_U_connect 14 = .ok (.invokevirtual 140, 3) := by decide +kernel
theorem d_U_connect_17 : decode b_U_connect 17 = .ok (.ireturn, 1) := by decide +kernel
theorem d_U_connect_18 : decode b_U_connect 18 = .ok (.aload_n 0, 1) := by decide +kernel
theorem d_U_connect_19 : decode b_U_connect 19 = .ok (.getfield 20, 3) := by decide +kernel
theorem d_U_connect_22 : decode b_U_connect 22 = .ok (.iload_n 1, 1) := by decide +kernel
theorem d_U_connect_23 : decode b_U_connect 23 = .ok (.iaload, 1) := by decide +kernel
theorem d_U_connect_24 : decode b_U_connect 24 = .ok (.ifCond .eq 9, 3) := by decide +kernel
theorem d_U_connect_27 : decode b_U_connect 27 = .ok (.aload_n 0, 1) := by decide +kernel
theorem d_U_connect_28 : decode b_U_connect 28 = .ok (.iconst 2, 1) := by decide +kernel
theorem d_U_connect_29 : decode b_U_connect 29 = .ok (.invokevirtual 140, 3) := by decide +kernel
theorem d_U_connect_32 : decode b_U_connect 32 = .ok (.ireturn, 1) := by decide +kernel
theorem d_U_connect_33 : decode b_U_connect 33 = .ok (.aload_n 0, 1) := by decide +kernel
theorem d_U_connect_34 : decode b_U_connect 34 = .ok (.getfield 20, 3) := by decide +kernel
theorem d_U_connect_37 : decode b_U_connect 37 = .ok (.iload_n 1, 1) := by decide +kernel
theorem d_U_connect_38 : decode b_U_connect 38 = .ok (.iconst 1, 1) := by decide +kernel
theorem d_U_connect_39 : decode b_U_connect 39 = .ok (.iastore, 1) := by decide +kernel
theorem d_U_connect_40 : decode b_U_connect 40 = .ok (.aload_n 0, 1) := by decide +kernel
theorem d_U_connect_41 : decode b_U_connect 41 = .ok (.getfield 50, 3) := by decide +kernel
theorem d_U_connect_44 : decode b_U_connect 44 = .ok (.iload_n 1, 1) := by decide +kernel
theorem d_U_connect_45 : decode b_U_connect 45 = .ok (.iconst 0, 1) := by decide +kernel
theorem d_U_connect_46 : decode b_U_connect 46 = .ok (.iastore, 1) := by decide +kernel
theorem d_U_connect_47 : decode b_U_connect 47 = .ok (.iconst 1, 1) := by decide +kernel
theorem d_U_connect_48 : decode b_U_connect 48 = .ok (.ireturn, 1) := by decide +kernel
theorem d_U_login_0 : decode b_U_login 0 = .ok (.aload_n 0, 1) := by decide +kernel
theorem d_U_login_1 : decode b_U_login 1 = .ok (.iconst 0, 1) := by decide +kernel
theorem d_U_login_2 : decode b_U_login 2 = .ok (.putfield 87, 3) := by decide +kernel
theorem d_U_login_5 : decode b_U_login 5 = .ok (.iload_n 1, 1) := by decide +kernel
theorem d_U_login_6 : decode b_U_login 6 = .ok (.invokestatic 144, 3) := by decide +kernel
theorem d_U_login_9 : decode b_U_login 9 = .ok (.ifCond .eq 10, 3) := by decide +kernel
theorem d_U_login_12 : decode b_U_login 12 = .ok (.iload_n 2, 1) := by decide +kernel
theorem d_U_login_13 : decode b_U_login 13 = .ok (.invokestatic 136, 3) := by decide +kernel
theorem d_U_login_16 : decode b_U_login 16 = .ok (.ifCond .ne 9, 3) := by decide +kernel
theorem d_U_login_19 : decode b_U_login 19 = .ok (.aload_n 0, 1) := by decide +kernel
theorem d_U_login_20 : decode b_U_login 20 = .ok (.iconst 1, 1) := by decide +kernel
theorem d_U_login_21 : decode b_U_login 21 = .ok (.invokevirtual 140, 3) := by decide +kernel
theorem d_U_login_24 : decode b_U_login 24 = .ok (.ireturn, 1) := by decide +kernel
theorem d_U_login_25 : decode b_U_login 25 = .ok (.aload_n 0, 1) := by decide +kernel
theorem d_U_login_26 : decode b_U_login 26 = .ok (.getfield 20, 3) := by decide +kernel
theorem d_U_login_29 : decode b_U_login 29 = .ok (.iload_n 1, 1) := by decide +kernel
theorem d_U_login_30 : decode b_U_login 30 = .ok (.iaload, 1) := by decide +kernel
theorem d_U_login_31 : decode b_U_login 31 = .ok (.iconst 1, 1) := by decide +kernel
theorem d_U_login_32 : decode b_U_login 32 = .ok (.if_icmp .eq 9, 3) := by decide +kernel
theorem d_U_login_35 : decode b_U_login 35 = .ok (.aload_n 0, 1) := by decide +kernel
theorem d_U_login_36 : decode b_U_login 36 = .ok (.iconst 2, 1) := by decide +kernel
theorem d_U_login_37 : decode b_U_login 37 = .ok (.invokevirtual 140, 3) := by decide +kernel
theorem d_U_login_40 : decode b_U_login 40 = .ok (.ireturn, 1) := by decide +kernel
theorem d_U_login_41 : decode b_U_login 41 = .ok (.aload_n 0, 1) := by decide +kernel
theorem d_U_login_42 : decode b_U_login 42 = .ok (.getfield 20, 3) := by decide +kernel
theorem d_U_login_45 : decode b_U_login 45 = .ok (.iload_n 1, 1) := by decide +kernel
theorem d_U_login_46 : decode b_U_login 46 = .ok (.iconst 2, 1) := by decide +kernel
theorem d_U_login_47 : decode b_U_login 47 = .ok (.iastore, 1) := by decide +kernel
theorem d_U_login_48 : decode b_U_login 48 = .ok (.aload_n 0, 1) := by decide +kernel
theorem d_U_login_49 : decode b_U_login 49 = .ok (.getfield 23, 3) := by decide +kernel
theorem d_U_login_52 : decode b_U_login 52 = .ok (.iload_n 1, 1) := by decide +kernel
theorem d_U_login_53 : decode b_U_login 53 = .ok (.iload_n 2, 1) := by decide +kernel
theorem d_U_login_54 : decode b_U_login 54 = .ok (.iastore, 1) := by decide +kernel
theorem d_U_login_55 : decode b_U_login 55 = .ok (.aload_n 0, 1) := by decide +kernel
theorem d_U_login_56 : decode b_U_login 56 = .ok (.getfield 35, 3) := by decide +kernel
theorem d_U_login_59 : decode b_U_login 59 = .ok (.iload_n 1, 1) := by decide +kernel
theorem d_U_login_60 : decode b_U_login 60 = .ok (.ldc2_w 147, 3) := by decide +kernel
theorem d_U_login_63 : decode b_U_login 63 = .ok (.aload_n 0, 1) := by decide +kernel
theorem d_U_login_64 : decode b_U_login 64 = .ok (.getfield 149, 3) := by decide +kernel
theorem d_U_login_67 : decode b_U_login 67 = .ok (.i2l, 1) := by decide +kernel
theorem d_U_login_68 : decode b_U_login 68 = .ok (.lmul, 1) := by decide +kernel
theorem d_U_login_69 : decode b_U_login 69 = .ok (.ldc2_w 152, 3) := by decide +kernel
theorem d_U_login_72 : decode b_U_login 72 = .ok (.ladd, 1) := by decide +kernel
theorem d_U_login_73 : decode b_U_login 73 = .ok (.ldc2_w 154, 3) := by decide +kernel
theorem d_U_login_76 : decode b_U_login 76 = .ok (.lrem, 1) := by decide +kernel
theorem d_U_login_77 : decode b_U_login 77 = .ok (.l2i, 1) := by decide +kernel
theorem d_U_login_78 : decode b_U_login 78 = .ok (.iastore, 1) := by decide +kernel
theorem d_U_login_79 : decode b_U_login 79 = .ok (.aload_n 0, 1) := by decide +kernel
theorem d_U_login_80 : decode b_U_login 80 = .ok (.dup, 1) := by decide +kernel
theorem d_U_login_81 : decode b_U_login 81 = .ok (.getfield 149, 3) := by decide +kernel
theorem d_U_login_84 : decode b_U_login 84 = .ok (.iconst 1, 1) := by decide +kernel
theorem d_U_login_85 : decode b_U_login 85 = .ok (.iadd, 1) := by decide +kernel
theorem d_U_login_86 : decode b_U_login 86 = .ok (.putfield 149, 3) := by decide +kernel
theorem d_U_login_89 : decode b_U_login 89 = .ok (.aload_n 0, 1) := by decide +kernel
theorem d_U_login_90 : decode b_U_login 90 = .ok (.getfield 35, 3) := by decide +kernel
theorem d_U_login_93 : decode b_U_login 93 = .ok (.iload_n 1, 1) := by decide +kernel
theorem d_U_login_94 : decode b_U_login 94 = .ok (.iaload, 1) := by decide +kernel
theorem d_U_login_95 : decode b_U_login 95 = .ok (.ireturn, 1) := by decide +kernel
theorem d_U_prove_0 : decode b_U_prove 0 = .ok (.aload_n 0, 1) := by decide +kernel
theorem d_U_prove_1 : decode b_U_prove 1 = .ok (.iconst 0, 1) := by decide +kernel
theorem d_U_prove_2 : decode b_U_prove 2 = .ok (.putfield 87, 3) := by decide +kernel
theorem d_U_prove_5 : decode b_U_prove 5 = .ok (.iload_n 1, 1) := by decide +kernel
theorem d_U_prove_6 : decode b_U_prove 6 = .ok (.invokestatic 144, 3) := by decide +kernel
theorem d_U_prove_9 : decode b_U_prove 9 = .ok (.ifCond .ne 9, 3) := by decide +kernel
theorem d_U_prove_12 : decode b_U_prove 12 = .ok (.aload_n 0, 1) := by decide +kernel
theorem d_U_prove_13 : decode b_U_prove 13 = .ok (.iconst 1, 1) := by decide +kernel
theorem d_U_prove_14 : decode b_U_prove 14 = .ok (.invokevirtual 140, 3) := by decide +kernel
theorem d_U_prove_17 : decode b_U_prove 17 = .ok (.ireturn, 1) := by decide +kernel
theorem d_U_prove_18 : decode b_U_prove 18 = .ok (.aload_n 0, 1) := by decide +kernel
theorem d_U_prove_19 : decode b_U_prove 19 = .ok (.getfield 20, 3) := by decide +kernel
theorem d_U_prove_22 : decode b_U_prove 22 = .ok (.iload_n 1, 1) := by decide +kernel
theorem d_U_prove_23 : decode b_U_prove 23 = .ok (.iaload, 1) := by decide +kernel
theorem d_U_prove_24 : decode b_U_prove 24 = .ok (.iconst 2, 1) := by decide +kernel
theorem d_U_prove_25 : decode b_U_prove 25 = .ok (.if_icmp .eq 9, 3) := by decide +kernel
theorem d_U_prove_28 : decode b_U_prove 28 = .ok (.aload_n 0, 1) := by decide +kernel
theorem d_U_prove_29 : decode b_U_prove 29 = .ok (.iconst 2, 1) := by decide +kernel
theorem d_U_prove_30 : decode b_U_prove 30 = .ok (.invokevirtual 140, 3) := by decide +kernel
theorem d_U_prove_33 : decode b_U_prove 33 = .ok (.ireturn, 1) := by decide +kernel
theorem d_U_prove_34 : decode b_U_prove 34 = .ok (.aload_n 0, 1) := by decide +kernel
theorem d_U_prove_35 : decode b_U_prove 35 = .ok (.getfield 23, 3) := by decide +kernel
theorem d_U_prove_38 : decode b_U_prove 38 = .ok (.iload_n 1, 1) := by decide +kernel
theorem d_U_prove_39 : decode b_U_prove 39 = .ok (.iaload, 1) := by decide +kernel
theorem d_U_prove_40 : decode b_U_prove 40 = .ok (.istore_n 3, 1) := by decide +kernel
theorem d_U_prove_41 : decode b_U_prove 41 = .ok (.aload_n 0, 1) := by decide +kernel
theorem d_U_prove_42 : decode b_U_prove 42 = .ok (.getfield 7, 3) := by decide +kernel
theorem d_U_prove_45 : decode b_U_prove 45 = .ok (.iload_n 3, 1) := by decide +kernel
theorem d_U_prove_46 : decode b_U_prove 46 = .ok (.baload, 1) := by decide +kernel
theorem d_U_prove_47 : decode b_U_prove 47 = .ok (.ifCond .eq 36, 3) := by decide +kernel
theorem d_U_prove_50 : decode b_U_prove 50 = .ok (.iload_n 2, 1) := by decide +kernel
theorem d_U_prove_51 : decode b_U_prove 51 = .ok (.aload_n 0, 1) := by decide +kernel
theorem d_U_prove_52 : decode b_U_prove 52 = .ok (.getfield 13, 3) := by decide +kernel
theorem d_U_prove_55 : decode b_U_prove 55 = .ok (.iload_n 3, 1) := by decide +kernel
theorem d_U_prove_56 : decode b_U_prove 56 = .ok (.iaload, 1) := by decide +kernel
theorem d_U_prove_57 : decode b_U_prove 57 = .ok (.bipush 31, 2) := by decide +kernel
theorem d_U_prove_59 : decode b_U_prove 59 = .ok (.imul, 1) := by decide +kernel
theorem d_U_prove_60 : decode b_U_prove 60 = .ok (.aload_n 0, 1) := by decide +kernel
theorem d_U_prove_61 : decode b_U_prove 61 = .ok (.getfield 35, 3) := by decide +kernel
theorem d_U_prove_64 : decode b_U_prove 64 = .ok (.iload_n 1, 1) := by decide +kernel
theorem d_U_prove_65 : decode b_U_prove 65 = .ok (.iaload, 1) := by decide +kernel
theorem d_U_prove_66 : decode b_U_prove 66 = .ok (.iadd, 1) := by decide +kernel
theorem d_U_prove_67 : decode b_U_prove 67 = .ok (.sipush 10007, 3) := by decide +kernel
theorem d_U_prove_70 : decode b_U_prove 70 = .ok (.irem, 1) := by decide +kernel
theorem d_U_prove_71 : decode b_U_prove 71 = .ok (.if_icmp .ne 12, 3) := by decide +kernel
theorem d_U_prove_74 : decode b_U_prove 74 = .ok (.aload_n 0, 1) := by decide +kernel
theorem d_U_prove_75 : decode b_U_prove 75 = .ok (.getfield 20, 3) := by decide +kernel
theorem d_U_prove_78 : decode b_U_prove 78 = .ok (.iload_n 1, 1) := by decide +kernel
theorem d_U_prove_79 : decode b_U_prove 79 = .ok (.iconst 3, 1) := by decide +kernel
theorem d_U_prove_80 : decode b_U_prove 80 = .ok (.iastore, 1) := by decide +kernel
theorem d_U_prove_81 : decode b_U_prove 81 = .ok (.iconst 1, 1) := by decide +kernel
theorem d_U_prove_82 : decode b_U_prove 82 = .ok (.ireturn, 1) := by decide +kernel
theorem d_U_prove_83 : decode b_U_prove 83 = .ok (.aload_n 0, 1) := by decide +kernel
theorem d_U_prove_84 : decode b_U_prove 84 = .ok (.getfield 20, 3) := by decide +kernel
theorem d_U_prove_87 : decode b_U_prove 87 = .ok (.iload_n 1, 1) := by decide +kernel
theorem d_U_prove_88 : decode b_U_prove 88 = .ok (.iconst 1, 1) := by decide +kernel
theorem d_U_prove_89 : decode b_U_prove 89 = .ok (.iastore, 1) := by decide +kernel
theorem d_U_prove_90 : decode b_U_prove 90 = .ok (.aload_n 0, 1) := by decide +kernel
theorem d_U_prove_91 : decode b_U_prove 91 = .ok (.getfield 23, 3) := by decide +kernel
theorem d_U_prove_94 : decode b_U_prove 94 = .ok (.iload_n 1, 1) := by decide +kernel
theorem d_U_prove_95 : decode b_U_prove 95 = .ok (.iconst (-1), 1) := by decide +kernel
theorem d_U_prove_96 : decode b_U_prove 96 = .ok (.iastore, 1) := by decide +kernel
theorem d_U_prove_97 : decode b_U_prove 97 = .ok (.aload_n 0, 1) := by decide +kernel
theorem d_U_prove_98 : decode b_U_prove 98 = .ok (.iconst 3, 1) := by decide +kernel
theorem d_U_prove_99 : decode b_U_prove 99 = .ok (.invokevirtual 140, 3) := by decide +kernel
theorem d_U_prove_102 : decode b_U_prove 102 = .ok (.ireturn, 1) := by decide +kernel
theorem d_U_tell_0 : decode b_U_tell 0 = .ok (.aload_n 0, 1) := by decide +kernel
theorem d_U_tell_1 : decode b_U_tell 1 = .ok (.getfield 23, 3) := by decide +kernel
theorem d_U_tell_4 : decode b_U_tell 4 = .ok (.iload_n 1, 1) := by decide +kernel
theorem d_U_tell_5 : decode b_U_tell 5 = .ok (.iaload, 1) := by decide +kernel
theorem d_U_tell_6 : decode b_U_tell 6 = .ok (.istore_n 3, 1) := by decide +kernel
theorem d_U_tell_7 : decode b_U_tell 7 = .ok (.iconst 0, 1) := by decide +kernel
theorem d_U_tell_8 : decode b_U_tell 8 = .ok (.istore 4, 2) := by decide +kernel
theorem d_U_tell_10 : decode b_U_tell 10 = .ok (.iload 4, 2) := by decide +kernel
theorem d_U_tell_12 : decode b_U_tell 12 = .ok (.bipush 8, 2) := by decide +kernel
theorem d_U_tell_14 : decode b_U_tell 14 = .ok (.if_icmp .ge 50, 3) := by decide +kernel
theorem d_U_tell_17 : decode b_U_tell 17 = .ok (.aload_n 0, 1) := by decide +kernel
theorem d_U_tell_18 : decode b_U_tell 18 = .ok (.iload_n 3, 1) := by decide +kernel
theorem d_U_tell_19 : decode b_U_tell 19 = .ok (.iload 4, 2) := by decide +kernel
theorem d_U_tell_21 : decode b_U_tell 21 = .ok (.iconst 2, 1) := by decide +kernel
theorem d_U_tell_22 : decode b_U_tell 22 = .ok (.invokevirtual 102, 3) := by decide +kernel
theorem d_U_tell_25 : decode b_U_tell 25 = .ok (.ifCond .eq 33, 3) := by decide +kernel
theorem d_U_tell_28 : decode b_U_tell 28 = .ok (.aload_n 0, 1) := by decide +kernel
theorem d_U_tell_29 : decode b_U_tell 29 = .ok (.iload_n 2, 1) := by decide +kernel
theorem d_U_tell_30 : decode b_U_tell 30 = .ok (.iload_n 3, 1) := by decide +kernel
theorem d_U_tell_31 : decode b_U_tell 31 = .ok (.iload 4, 2) := by decide +kernel
theorem d_U_tell_33 : decode b_U_tell 33 = .ok (.aload_n 0, 1) := by decide +kernel
theorem d_U_tell_34 : decode b_U_tell 34 = .ok (.getfield 26, 3) := by decide +kernel
theorem d_U_tell_37 : decode b_U_tell 37 = .ok (.iload_n 1, 1) := by decide +kernel
theorem d_U_tell_38 : decode b_U_tell 38 = .ok (.iaload, 1) := by decide +kernel
theorem d_U_tell_39 : decode b_U_tell 39 = .ok (.iload_n 2, 1) := by decide +kernel
theorem d_U_tell_40 : decode b_U_tell 40 = .ok (.iconst 2, 1) := by decide +kernel
theorem d_U_tell_41 : decode b_U_tell 41 = .ok (.if_icmp .ne 12, 3) := by decide +kernel
theorem d_U_tell_44 : decode b_U_tell 44 = .ok (.aload_n 0, 1) := by decide +kernel
theorem d_U_tell_45 : decode b_U_tell 45 = .ok (.getfield 32, 3) := by decide +kernel
theorem d_U_tell_48 : decode b_U_tell 48 = .ok (.iload_n 1, 1) := by decide +kernel
theorem d_U_tell_49 : decode b_U_tell 49 = .ok (.iaload, 1) := by decide +kernel
theorem d_U_tell_50 : decode b_U_tell 50 = .ok (.goto 4, 3) := by decide +kernel
theorem d_U_tell_53 : decode b_U_tell 53 = .ok (.iconst 0, 1) := by decide +kernel
theorem d_U_tell_54 : decode b_U_tell 54 = .ok (.iconst (-1), 1) := by decide +kernel
theorem d_U_tell_55 : decode b_U_tell 55 = .ok (.invokevirtual 156, 3) := by decide +kernel
theorem d_U_tell_58 : decode b_U_tell 58 = .ok (.iinc 4 1, 3) := by decide +kernel
theorem d_U_tell_61 : decode b_U_tell 61 = .ok (.goto (-51), 3) := by decide +kernel
theorem d_U_tell_64 : decode b_U_tell 64 = .ok (.return_, 1) := by decide +kernel
theorem d_U_shut_0 : decode b_U_shut 0 = .ok (.aload_n 0, 1) := by decide +kernel
theorem d_U_shut_1 : decode b_U_shut 1 = .ok (.getfield 29, 3) := by decide +kernel
theorem d_U_shut_4 : decode b_U_shut 4 = .ok (.iload_n 1, 1) := by decide +kernel
theorem d_U_shut_5 : decode b_U_shut 5 = .ok (.baload, 1) := by decide +kernel
theorem d_U_shut_6 : decode b_U_shut 6 = .ok (.ifCond .eq 16, 3) := by decide +kernel
theorem d_U_shut_9 : decode b_U_shut 9 = .ok (.aload_n 0, 1) := by decide +kernel
theorem d_U_shut_10 : decode b_U_shut 10 = .ok (.getfield 29, 3) := by decide +kernel
theorem d_U_shut_13 : decode b_U_shut 13 = .ok (.iload_n 1, 1) := by decide +kernel
theorem d_U_shut_14 : decode b_U_shut 14 = .ok (.iconst 0, 1) := by decide +kernel
theorem d_U_shut_15 : decode b_U_shut 15 = .ok (.bastore, 1) := by decide +kernel
theorem d_U_shut_16 : decode b_U_shut 16 = .ok (.aload_n 0, 1) := by decide +kernel
theorem d_U_shut_17 : decode b_U_shut 17 = .ok (.iload_n 1, 1) := by decide +kernel
theorem d_U_shut_18 : decode b_U_shut 18 = .ok (.iconst 3, 1) := by decide +kernel
theorem d_U_shut_19 : decode b_U_shut 19 = .ok (.invokevirtual 159, 3) := by decide +kernel
theorem d_U_shut_22 : decode b_U_shut 22 = .ok (.aload_n 0, 1) := by decide +kernel
theorem d_U_shut_23 : decode b_U_shut 23 = .ok (.getfield 20, 3) := by decide +kernel
theorem d_U_shut_26 : decode b_U_shut 26 = .ok (.iload_n 1, 1) := by decide +kernel
theorem d_U_shut_27 : decode b_U_shut 27 = .ok (.iconst 0, 1) := by decide +kernel
theorem d_U_shut_28 : decode b_U_shut 28 = .ok (.iastore, 1) := by decide +kernel
theorem d_U_shut_29 : decode b_U_shut 29 = .ok (.aload_n 0, 1) := by decide +kernel
theorem d_U_shut_30 : decode b_U_shut 30 = .ok (.getfield 23, 3) := by decide +kernel
theorem d_U_shut_33 : decode b_U_shut 33 = .ok (.iload_n 1, 1) := by decide +kernel
theorem d_U_shut_34 : decode b_U_shut 34 = .ok (.iconst (-1), 1) := by decide +kernel
theorem d_U_shut_35 : decode b_U_shut 35 = .ok (.iastore, 1) := by decide +kernel
theorem d_U_shut_36 : decode b_U_shut 36 = .ok (.aload_n 0, 1) := by decide +kernel
theorem d_U_shut_37 : decode b_U_shut 37 = .ok (.getfield 26, 3) := by decide +kernel
theorem d_U_shut_40 : decode b_U_shut 40 = .ok (.iload_n 1, 1) := by decide +kernel
theorem d_U_shut_41 : decode b_U_shut 41 = .ok (.iconst (-1), 1) := by decide +kernel
theorem d_U_shut_42 : decode b_U_shut 42 = .ok (.iastore, 1) := by decide +kernel
theorem d_U_shut_43 : decode b_U_shut 43 = .ok (.return_, 1) := by decide +kernel
theorem d_U_bind_0 : decode b_U_bind 0 = .ok (.aload_n 0, 1) := by decide +kernel
theorem d_U_bind_1 : decode b_U_bind 1 = .ok (.iconst 0, 1) := by decide +kernel
theorem d_U_bind_2 : decode b_U_bind 2 = .ok (.putfield 87, 3) := by decide +kernel
theorem d_U_bind_5 : decode b_U_bind 5 = .ok (.iload_n 1, 1) := by decide +kernel
theorem d_U_bind_6 : decode b_U_bind 6 = .ok (.invokestatic 144, 3) := by decide +kernel
theorem d_U_bind_9 : decode b_U_bind 9 = .ok (.ifCond .eq 12, 3) := by decide +kernel
theorem d_U_bind_12 : decode b_U_bind 12 = .ok (.iload_n 2, 1) := by decide +kernel
theorem d_U_bind_13 : decode b_U_bind 13 = .ok (.iconst 0, 1) := by decide +kernel
theorem d_U_bind_14 : decode b_U_bind 14 = .ok (.iconst 2, 1) := by decide +kernel
theorem d_U_bind_15 : decode b_U_bind 15 = .ok (.invokestatic 91, 3) := by decide +kernel
theorem d_U_bind_18 : decode b_U_bind 18 = .ok (.ifCond .ne 9, 3) := by decide +kernel
theorem d_U_bind_21 : decode b_U_bind 21 = .ok (.aload_n 0, 1) := by decide +kernel
theorem d_U_bind_22 : decode b_U_bind 22 = .ok (.iconst 1, 1) := by decide +kernel
theorem d_U_bind_23 : decode b_U_bind 23 = .ok (.invokevirtual 140, 3) := by decide +kernel
theorem d_U_bind_26 : decode b_U_bind 26 = .ok (.ireturn, 1) := by decide +kernel
theorem d_U_bind_27 : decode b_U_bind 27 = .ok (.aload_n 0, 1) := by decide +kernel
theorem d_U_bind_28 : decode b_U_bind 28 = .ok (.getfield 20, 3) := by decide +kernel
theorem d_U_bind_31 : decode b_U_bind 31 = .ok (.iload_n 1, 1) := by decide +kernel
theorem d_U_bind_32 : decode b_U_bind 32 = .ok (.iaload, 1) := by decide +kernel
theorem d_U_bind_33 : decode b_U_bind 33 = .ok (.iconst 3, 1) := by decide +kernel
theorem d_U_bind_34 : decode b_U_bind 34 = .ok (.if_icmp .eq 9, 3) := by decide +kernel
theorem d_U_bind_37 : decode b_U_bind 37 = .ok (.aload_n 0, 1) := by decide +kernel
theorem d_U_bind_38 : decode b_U_bind 38 = .ok (.iconst 2, 1) := by decide +kernel
theorem d_U_bind_39 : decode b_U_bind 39 = .ok (.invokevirtual 140, 3) := by decide +kernel
theorem d_U_bind_42 : decode b_U_bind 42 = .ok (.ireturn, 1) := by decide +kernel
theorem d_U_bind_43 : decode b_U_bind 43 = .ok (.iconst 0, 1) := by decide +kernel
theorem d_U_bind_44 : decode b_U_bind 44 = .ok (.istore_n 3, 1) := by decide +kernel
theorem d_U_bind_45 : decode b_U_bind 45 = .ok (.iconst 0, 1) := by decide +kernel
theorem d_U_bind_46 : decode b_U_bind 46 = .ok (.istore 4, 2) := by decide +kernel
theorem d_U_bind_48 : decode b_U_bind 48 = .ok (.iload 4, 2) := by decide +kernel
theorem d_U_bind_50 : decode b_U_bind 50 = .ok (.bipush 6, 2) := by decide +kernel
theorem d_U_bind_52 : decode b_U_bind 52 = .ok (.if_icmp .ge 58, 3) := by decide +kernel
theorem d_U_bind_55 : decode b_U_bind 55 = .ok (.aload_n 0, 1) := by decide +kernel
theorem d_U_bind_56 : decode b_U_bind 56 = .ok (.getfield 20, 3) := by decide +kernel
theorem d_U_bind_59 : decode b_U_bind 59 = .ok (.iload 4, 2) := by decide +kernel
theorem d_U_bind_61 : decode b_U_bind 61 = .ok (.iaload, 1) := by decide +kernel
theorem d_U_bind_62 : decode b_U_bind 62 = .ok (.iconst 4, 1) := by decide +kernel
theorem d_U_bind_63 : decode b_U_bind 63 = .ok (.if_icmp .ne 41, 3) := by decide +kernel
theorem d_U_bind_66 : decode b_U_bind 66 = .ok (.aload_n 0, 1) := by decide +kernel
theorem d_U_bind_67 : decode b_U_bind 67 = .ok (.getfield 23, 3) := by decide +kernel
theorem d_U_bind_70 : decode b_U_bind 70 = .ok (.iload 4, 2) := by decide +kernel
theorem d_U_bind_72 : decode b_U_bind 72 = .ok (.iaload, 1) := by decide +kernel
theorem d_U_bind_73 : decode b_U_bind 73 = .ok (.aload_n 0, 1) := by decide +kernel
theorem d_U_bind_74 : decode b_U_bind 74 = .ok (.getfield 23, 3) := by decide +kernel
theorem d_U_bind_77 : decode b_U_bind 77 = .ok (.iload_n 1, 1) := by decide +kernel
theorem d_U_bind_78 : decode b_U_bind 78 = .ok (.iaload, 1) := by decide +kernel
theorem d_U_bind_79 : decode b_U_bind 79 = .ok (.if_icmp .ne 25, 3) := by decide +kernel
theorem d_U_bind_82 : decode b_U_bind 82 = .ok (.aload_n 0, 1) := by decide +kernel
theorem d_U_bind_83 : decode b_U_bind 83 = .ok (.getfield 26, 3) := by decide +kernel
theorem d_U_bind_86 : decode b_U_bind 86 = .ok (.iload 4, 2) := by decide +kernel
theorem d_U_bind_88 : decode b_U_bind 88 = .ok (.iaload, 1) := by decide +kernel
theorem d_U_bind_89 : decode b_U_bind 89 = .ok (.iload_n 2, 1) := by decide +kernel
theorem d_U_bind_90 : decode b_U_bind 90 = .ok (.if_icmp .eq 6, 3) := by decide +kernel
theorem d_U_bind_93 : decode b_U_bind 93 = .ok (.goto 11, 3) := by decide +kernel
theorem d_U_bind_96 : decode b_U_bind 96 = .ok (.aload_n 0, 1) := by decide +kernel
theorem d_U_bind_97 : decode b_U_bind 97 = .ok (.iload 4, 2) := by decide +kernel
theorem d_U_bind_99 : decode b_U_bind 99 = .ok (.invokevirtual 163, 3) := by decide +kernel
theorem d_U_bind_102 : decode b_U_bind 102 = .ok (.iconst 1, 1) := by decide +kernel
theorem d_U_bind_103 : decode b_U_bind 103 = .ok (.istore_n 3, 1) := by decide +kernel
theorem d_U_bind_104 : decode b_U_bind 104 = .ok (.iinc 4 1, 3) := by decide +kernel
theorem d_U_bind_107 : decode b_U_bind 107 = .ok (.goto (-59), 3) := by decide +kernel
theorem d_U_bind_110 : decode b_U_bind 110 = .ok (.aload_n 0, 1) := by decide +kernel
theorem d_U_bind_111 : decode b_U_bind 111 = .ok (.getfield 20, 3) := by decide +kernel
theorem d_U_bind_114 : decode b_U_bind 114 = .ok (.iload_n 1, 1) := by decide +kernel
theorem d_U_bind_115 : decode b_U_bind 115 = .ok (.iconst 4, 1) := by decide +kernel
theorem d_U_bind_116 : decode b_U_bind 116 = .ok (.iastore, 1) := by decide +kernel
theorem d_U_bind_117 : decode b_U_bind 117 = .ok (.aload_n 0, 1) := by decide +kernel
theorem d_U_bind_118 : decode b_U_bind 118 = .ok (.getfield 26, 3) := by decide +kernel
theorem d_U_bind_121 : decode b_U_bind 121 = .ok (.iload_n 1, 1) := by decide +kernel
theorem d_U_bind_122 : decode b_U_bind 122 = .ok (.iload_n 2, 1) := by decide +kernel
theorem d_U_bind_123 : decode b_U_bind 123 = .ok (.iastore, 1) := by decide +kernel
theorem d_U_bind_124 : decode b_U_bind 124 = .ok (.iload_n 3, 1) := by decide +kernel
theorem d_U_bind_125 : decode b_U_bind 125 = .ok (.ireturn, 1) := by decide +kernel
theorem d_U_welcome_0 : decode b_U_welcome 0 = .ok (.aload_n 0, 1) := by decide +kernel
theorem d_U_welcome_1 : decode b_U_welcome 1 = .ok (.getfield 23, 3) := by decide +kernel
theorem d_U_welcome_4 : decode b_U_welcome 4 = .ok (.iload_n 1, 1) := by decide +kernel
theorem d_U_welcome_5 : decode b_U_welcome 5 = .ok (.iaload, 1) := by decide +kernel
theorem d_U_welcome_6 : decode b_U_welcome 6 = .ok (.istore_n 2, 1) := by decide +kernel
theorem d_U_welcome_7 : decode b_U_welcome 7 = .ok (.iconst 0, 1) := by decide +kernel
theorem d_U_welcome_8 : decode b_U_welcome 8 = .ok (.istore_n 3, 1) := by decide +kernel
theorem d_U_welcome_9 : decode b_U_welcome 9 = .ok (.iload_n 3, 1) := by decide +kernel
theorem d_U_welcome_10 : decode b_U_welcome 10 = .ok (.bipush 8, 2) := by decide +kernel
theorem d_U_welcome_12 : decode b_U_welcome 12 = .ok (.if_icmp .ge 96, 3) := by decide +kernel
theorem d_U_welcome_15 : decode b_U_welcome 15 = .ok (.aload_n 0, 1) := by decide +kernel
theorem d_U_welcome_16 : decode b_U_welcome 16 = .ok (.iload_n 2, 1) := by decide +kernel
theorem d_U_welcome_17 : decode b_U_welcome 17 = .ok (.iload_n 3, 1) := by decide +kernel
theorem d_U_welcome_18 : decode b_U_welcome 18 = .ok (.iconst 1, 1) := by decide +kernel
theorem d_U_welcome_19 : decode b_U_welcome 19 = .ok (.invokevirtual 102, 3) := by decide +kernel
theorem d_U_welcome_22 : decode b_U_welcome 22 = .ok (.ifCond .eq 80, 3) := by decide +kernel
theorem d_U_welcome_25 : decode b_U_welcome 25 = .ok (.iload_n 2, 1) := by decide +kernel
theorem d_U_welcome_26 : decode b_U_welcome 26 = .ok (.iconst 4, 1) := by decide +kernel
theorem d_U_welcome_27 : decode b_U_welcome 27 = .ok (.idiv, 1) := by decide +kernel
theorem d_U_welcome_28 : decode b_U_welcome 28 = .ok (.iload_n 3, 1) := by decide +kernel
theorem d_U_welcome_29 : decode b_U_welcome 29 = .ok (.iconst 4, 1) := by decide +kernel
theorem d_U_welcome_30 : decode b_U_welcome 30 = .ok (.idiv, 1) := by decide +kernel
theorem d_U_welcome_31 : decode b_U_welcome 31 = .ok (.if_icmp .eq 13, 3) := by decide +kernel
theorem d_U_welcome_34 : decode b_U_welcome 34 = .ok (.aload_n 0, 1) := by decide +kernel
theorem d_U_welcome_35 : decode b_U_welcome 35 = .ok (.getfield 83, 3) := by decide +kernel
theorem d_U_welcome_38 : decode b_U_welcome 38 = .ok (.ifCond .ne 6, 3) := by decide +kernel
theorem d_U_welcome_41 : decode b_U_welcome 41 = .ok (.goto 61, 3) := by decide +kernel
theorem d_U_welcome_44 : decode b_U_welcome 44 = .ok (.iconst 0, 1) := by decide +kernel
theorem d_U_welcome_45 : decode b_U_welcome 45 = .ok (.istore 4, 2) := by decide +kernel
theorem d_U_welcome_47 : decode b_U_welcome 47 = .ok (.iload 4, 2) := by decide +kernel
theorem d_U_welcome_49 : decode b_U_welcome 49 = .ok (.bipush 6, 2) := by decide +kernel
theorem d_U_welcome_51 : decode b_U_welcome 51 = .ok (.if_icmp .ge 51, 3) := by decide +kernel
theorem d_U_welcome_54 : decode b_U_welcome 54 = .ok (.aload_n 0, 1) := by decide +kernel
theorem d_U_welcome_55 : decode b_U_welcome 55 = .ok (.getfield 29, 3) := by decide +kernel
theorem d_U_welcome_58 : decode b_U_welcome 58 = .ok (.iload 4, 2) := by decide +kernel
theorem d_U_welcome_60 : decode b_U_welcome 60 = .ok (.baload, 1) := by decide +kernel
theorem d_U_welcome_61 : decode b_U_welcome 61 = .ok (.ifCond .eq 35, 3) := by decide +kernel
theorem d_U_welcome_64 : decode b_U_welcome 64 = .ok (.aload_n 0, 1) := by decide +kernel
theorem d_U_welcome_65 : decode b_U_welcome 65 = .ok (.getfield 23, 3) := by decide +kernel
theorem d_U_welcome_68 : decode b_U_welcome 68 = .ok (.iload 4, 2) := by decide +kernel
theorem d_U_welcome_70 : decode b_U_welcome 70 = .ok (.iaload, 1) := by decide +kernel
theorem d_U_welcome_71 : decode b_U_welcome 71 = .ok (.iload_n 3, 1) := by decide +kernel
theorem d_U_welcome_72 : decode b_U_welcome 72 = .ok (.if_icmp .ne 24, 3) := by decide +kernel
theorem d_U_welcome_75 : decode b_U_welcome 75 = .ok (.aload_n 0, 1) := by decide +kernel
theorem d_U_welcome_76 : decode b_U_welcome 76 = .ok (.iload_n 1, 1) := by decide +kernel
theorem d_U_welcome_77 : decode b_U_welcome 77 = .ok (.iconst 2, 1) := by decide +kernel
theorem d_U_welcome_78 : decode b_U_welcome 78 = .ok (.iload_n 3, 1) := by decide +kernel
theorem d_U_welcome_79 : decode b_U_welcome 79 = .ok (.aload_n 0, 1) := by decide +kernel
theorem d_U_welcome_80 : decode b_U_welcome 80 = .ok (.getfield 26, 3) := by decide +kernel
theorem d_U_welcome_83 : decode b_U_welcome 83 = .ok (.iload 4, 2) := by decide +kernel
theorem d_U_welcome_85 : decode b_U_welcome 85 = .ok (.iaload, 1) := by decide +kernel
theorem d_U_welcome_86 : decode b_U_welcome 86 = .ok (.aload_n 0, 1) := by decide +kernel
theorem d_U_welcome_87 : decode b_U_welcome 87 = .ok (.getfield 32, 3) := by decide +kernel
theorem d_U_welcome_90 : decode b_U_welcome 90 = .ok (.iload 4, 2) := by decide +kernel
theorem d_U_welcome_92 : decode b_U_welcome 92 = .ok (.iaload, 1) := by decide +kernel
theorem d_U_welcome_93 : decode b_U_welcome 93 = .ok (.invokevirtual 98, 3) := by decide +kernel
theorem d_U_welcome_96 : decode b_U_welcome 96 = .ok (.iinc 4 1, 3) := by decide +kernel
theorem d_U_welcome_99 : decode b_U_welcome 99 = .ok (.goto (-52), 3) := by decide +kernel
theorem d_U_welcome_102 : decode b_U_welcome 102 = .ok (.iinc 3 1, 3) := by decide +kernel
theorem d_U_welcome_105 : decode b_U_welcome 105 = .ok (.goto (-96), 3) := by decide +kernel
theorem d_U_welcome_108 : decode b_U_welcome 108 = .ok (.aload_n 0, 1) := by decide +kernel
theorem d_U_welcome_109 : decode b_U_welcome 109 = .ok (.getfield 32, 3) := by decide +kernel
theorem d_U_welcome_112 : decode b_U_welcome 112 = .ok (.iload_n 1, 1) := by decide +kernel
theorem d_U_welcome_113 : decode b_U_welcome 113 = .ok (.iaload, 1) := by decide +kernel
theorem d_U_welcome_114 : decode b_U_welcome 114 = .ok (.ifCond .ge 4, 3) := by decide +kernel
theorem d_U_welcome_117 : decode b_U_welcome 117 = .ok (.return_, 1) := by decide +kernel
theorem d_U_welcome_118 : decode b_U_welcome 118 = .ok (.iconst 4, 1) := by decide +kernel
theorem d_U_welcome_119 : decode b_U_welcome 119 = .ok (.iload_n 2, 1) := by decide +kernel
theorem d_U_welcome_120 : decode b_U_welcome 120 = .ok (.imul, 1) := by decide +kernel
theorem d_U_welcome_121 : decode b_U_welcome 121 = .ok (.istore_n 3, 1) := by decide +kernel
theorem d_U_welcome_122 : decode b_U_welcome 122 = .ok (.iload_n 3, 1) := by decide +kernel
theorem d_U_welcome_123 : decode b_U_welcome 123 = .ok (.iconst 4, 1) := by decide +kernel
theorem d_U_welcome_124 : decode b_U_welcome 124 = .ok (.iload_n 2, 1) := by decide +kernel
theorem d_U_welcome_125 : decode b_U_welcome 125 = .ok (.imul, 1) := by decide +kernel
theorem d_U_welcome_126 : decode b_U_welcome 126 = .ok (.aload_n 0, 1) := by decide +kernel
theorem d_U_welcome_127 : decode b_U_welcome 127 = .ok (.getfield 62, 3) := by decide +kernel
theorem d_U_welcome_130 : decode b_U_welcome 130 = .ok (.iload_n 2, 1) := by decide +kernel
theorem d_U_welcome_131 : decode b_U_welcome 131 = .ok (.iaload, 1) := by decide +kernel
theorem d_U_welcome_132 : decode b_U_welcome 132 = .ok (.iadd, 1) := by decide +kernel
theorem d_U_welcome_133 : decode b_U_welcome 133 = .ok (.if_icmp .ge 33, 3) := by decide +kernel
theorem d_U_welcome_136 : decode b_U_welcome 136 = .ok (.aload_n 0, 1) := by decide +kernel
theorem d_U_welcome_137 : decode b_U_welcome 137 = .ok (.iload_n 1, 1) := by decide +kernel
theorem d_U_welcome_138 : decode b_U_welcome 138 = .ok (.iconst 1, 1) := by decide +kernel
theorem d_U_welcome_139 : decode b_U_welcome 139 = .ok (.aload_n 0, 1) := by decide +kernel
theorem d_U_welcome_140 : decode b_U_welcome 140 = .ok (.getfield 53, 3) := by decide +kernel
theorem d_U_welcome_143 : decode b_U_welcome 143 = .ok (.iload_n 3, 1) := by decide +kernel
theorem d_U_welcome_144 : decode b_U_welcome 144 = .ok (.iaload, 1) := by decide +kernel
theorem d_U_welcome_145 : decode b_U_welcome 145 = .ok (.aload_n 0, 1) := by decide +kernel
theorem d_U_welcome_146 : decode b_U_welcome 146 = .ok (.getfield 56, 3) := by decide +kernel
theorem d_U_welcome_149 : decode b_U_welcome 149 = .ok (.iload_n 3, 1) := by decide +kernel
theorem d_U_welcome_150 : decode b_U_welcome 150 = .ok (.iaload, 1) := by decide +kernel
theorem d_U_welcome_151 : decode b_U_welcome 151 = .ok (.aload_n 0, 1) := by decide +kernel
theorem d_U_welcome_152 : decode b_U_welcome 152 = .ok (.getfield 59, 3) := by decide +kernel
theorem d_U_welcome_155 : decode b_U_welcome 155 = .ok (.iload_n 3, 1) := by decide +kernel
theorem d_U_welcome_156 : decode b_U_welcome 156 = .ok (.iaload, 1) := by decide +kernel
theorem d_U_welcome_157 : decode b_U_welcome 157 = .ok (.invokevirtual 98, 3) := by decide +kernel
theorem d_U_welcome_160 : decode b_U_welcome 160 = .ok (.iinc 3 1, 3) := by decide +kernel
theorem d_U_welcome_163 : decode b_U_welcome 163 = .ok (.goto (-41), 3) := by decide +kernel
theorem d_U_welcome_166 : decode b_U_welcome 166 = .ok (.aload_n 0, 1) := by decide +kernel
theorem d_U_welcome_167 : decode b_U_welcome 167 = .ok (.getfield 62, 3) := by decide +kernel
theorem d_U_welcome_170 : decode b_U_welcome 170 = .ok (.iload_n 2, 1) := by decide +kernel
theorem d_U_welcome_171 : decode b_U_welcome 171 = .ok (.iconst 0, 1) := by decide +kernel
theorem d_U_welcome_172 : decode b_U_welcome 172 = .ok (.iastore, 1) := by decide +kernel
theorem d_U_welcome_173 : decode b_U_welcome 173 = .ok (.return_, 1) := by decide +kernel
theorem d_U_here_0 : decode b_U_here 0 = .ok (.aload_n 0, 1) := by decide +kernel
theorem d_U_here_1 : decode b_U_here 1 = .ok (.iconst 0, 1) := by decide +kernel
theorem d_U_here_2 : decode b_U_here 2 = .ok (.putfield 87, 3) := by decide +kernel
theorem d_U_here_5 : decode b_U_here 5 = .ok (.iload_n 1, 1) := by decide +kernel
theorem d_U_here_6 : decode b_U_here 6 = .ok (.invokestatic 144, 3) := by decide +kernel
theorem d_U_here_9 : decode b_U_here 9 = .ok (.ifCond .eq 13, 3) := by decide +kernel
theorem d_U_here_12 : decode b_U_here 12 = .ok (.iload_n 2, 1) := by decide +kernel
theorem d_U_here_13 : decode b_U_here 13 = .ok (.bipush (-3), 2) := by decide +kernel
theorem d_U_here_15 : decode b_U_here 15 = .ok (.iconst 3, 1) := by decide +kernel
theorem d_U_here_16 : decode b_U_here 16 = .ok (.invokestatic 91, 3) := by decide +kernel
theorem d_U_here_19 : decode b_U_here 19 = .ok (.ifCond .ne 9, 3) := by decide +kernel
theorem d_U_here_22 : decode b_U_here 22 = .ok (.aload_n 0, 1) := by decide +kernel
theorem d_U_here_23 : decode b_U_here 23 = .ok (.iconst 1, 1) := by decide +kernel
theorem d_U_here_24 : decode b_U_here 24 = .ok (.invokevirtual 140, 3) := by decide +kernel
theorem d_U_here_27 : decode b_U_here 27 = .ok (.ireturn, 1) := by decide +kernel
theorem d_U_here_28 : decode b_U_here 28 = .ok (.aload_n 0, 1) := by decide +kernel
theorem d_U_here_29 : decode b_U_here 29 = .ok (.getfield 20, 3) := by decide +kernel
theorem d_U_here_32 : decode b_U_here 32 = .ok (.iload_n 1, 1) := by decide +kernel
theorem d_U_here_33 : decode b_U_here 33 = .ok (.iaload, 1) := by decide +kernel
theorem d_U_here_34 : decode b_U_here 34 = .ok (.iconst 4, 1) := by decide +kernel
theorem d_U_here_35 : decode b_U_here 35 = .ok (.if_icmp .eq 9, 3) := by decide +kernel
theorem d_U_here_38 : decode b_U_here 38 = .ok (.aload_n 0, 1) := by decide +kernel
theorem d_U_here_39 : decode b_U_here 39 = .ok (.iconst 2, 1) := by decide +kernel
theorem d_U_here_40 : decode b_U_here 40 = .ok (.invokevirtual 140, 3) := by decide +kernel
theorem d_U_here_43 : decode b_U_here 43 = .ok (.ireturn, 1) := by decide +kernel
theorem d_U_here_44 : decode b_U_here 44 = .ok (.aload_n 0, 1) := by decide +kernel
theorem d_U_here_45 : decode b_U_here 45 = .ok (.getfield 29, 3) := by decide +kernel
theorem d_U_here_48 : decode b_U_here 48 = .ok (.iload_n 1, 1) := by decide +kernel
theorem d_U_here_49 : decode b_U_here 49 = .ok (.baload, 1) := by decide +kernel
theorem d_U_here_50 : decode b_U_here 50 = .ok (.istore_n 3, 1) := by decide +kernel
theorem d_U_here_51 : decode b_U_here 51 = .ok (.aload_n 0, 1) := by decide +kernel
theorem d_U_here_52 : decode b_U_here 52 = .ok (.getfield 29, 3) := by decide +kernel
theorem d_U_here_55 : decode b_U_here 55 = .ok (.iload_n 1, 1) := by decide +kernel
theorem d_U_here_56 : decode b_U_here 56 = .ok (.iconst 1, 1) := by decide +kernel
theorem d_U_here_57 : decode b_U_here 57 = .ok (.bastore, 1) := by decide +kernel
theorem d_U_here_58 : decode b_U_here 58 = .ok (.aload_n 0, 1) := by decide +kernel
theorem d_U_here_59 : decode b_U_here 59 = .ok (.getfield 32, 3) := by decide +kernel
theorem d_U_here_62 : decode b_U_here 62 = .ok (.iload_n 1, 1) := by decide +kernel
theorem d_U_here_63 : decode b_U_here 63 = .ok (.iload_n 2, 1) := by decide +kernel
theorem d_U_here_64 : decode b_U_here 64 = .ok (.iastore, 1) := by decide +kernel
theorem d_U_here_65 : decode b_U_here 65 = .ok (.aload_n 0, 1) := by decide +kernel
theorem d_U_here_66 : decode b_U_here 66 = .ok (.iload_n 1, 1) := by decide +kernel
theorem d_U_here_67 : decode b_U_here 67 = .ok (.iconst 2, 1) := by decide +kernel
theorem d_U_here_68 : decode b_U_here 68 = .ok (.invokevirtual 159, 3) := by decide +kernel
theorem d_U_here_71 : decode b_U_here 71 = .ok (.iload_n 3, 1) := by decide +kernel
theorem d_U_here_72 : decode b_U_here 72 = .ok (.ifCond .ne 8, 3) := by decide +kernel
theorem d_U_here_75 : decode b_U_here 75 = .ok (.aload_n 0, 1) := by decide +kernel
theorem d_U_here_76 : decode b_U_here 76 = .ok (.iload_n 1, 1) := by decide +kernel
theorem d_U_here_77 : decode b_U_here 77 = .ok (.invokevirtual 167, 3) := by decide +kernel
theorem d_U_here_80 : decode b_U_here 80 = .ok (.aload_n 0, 1) := by decide +kernel
theorem d_U_here_81 : decode b_U_here 81 = .ok (.getfield 50, 3) := by decide +kernel
theorem d_U_here_84 : decode b_U_here 84 = .ok (.iload_n 1, 1) := by decide +kernel
theorem d_U_here_85 : decode b_U_here 85 = .ok (.iaload, 1) := by decide +kernel
theorem d_U_here_86 : decode b_U_here 86 = .ok (.ireturn, 1) := by decide +kernel
theorem d_U_gone_0 : decode b_U_gone 0 = .ok (.aload_n 0, 1) := by decide +kernel
theorem d_U_gone_1 : decode b_U_gone 1 = .ok (.iconst 0, 1) := by decide +kernel
theorem d_U_gone_2 : decode b_U_gone 2 = .ok (.putfield 87, 3) := by decide +kernel
theorem d_U_gone_5 : decode b_U_gone 5 = .ok (.iload_n 1, 1) := by decide +kernel
theorem d_U_gone_6 : decode b_U_gone 6 = .ok (.invokestatic 144, 3) := by decide +kernel
theorem d_U_gone_9 : decode b_U_gone 9 = .ok (.ifCond .ne 9, 3) := by decide +kernel
theorem d_U_gone_12 : decode b_U_gone 12 = .ok (.aload_n 0, 1) := by decide +kernel
theorem d_U_gone_13 : decode b_U_gone 13 = .ok (.iconst 1, 1) := by decide +kernel
theorem d_U_gone_14 : decode b_U_gone 14 = .ok (.invokevirtual 140, 3) := by decide +kernel
theorem d_U_gone_17 : decode b_U_gone 17 = .ok (.ireturn, 1) := by decide +kernel
theorem d_U_gone_18 : decode b_U_gone 18 = .ok (.aload_n 0, 1) := by decide +kernel
theorem d_U_gone_19 : decode b_U_gone 19 = .ok (.getfield 29, 3) := by decide +kernel
theorem d_U_gone_22 : decode b_U_gone 22 = .ok (.iload_n 1, 1) := by decide +kernel
theorem d_U_gone_23 : decode b_U_gone 23 = .ok (.baload, 1) := by decide +kernel
theorem d_U_gone_24 : decode b_U_gone 24 = .ok (.ifCond .ne 9, 3) := by decide +kernel
theorem d_U_gone_27 : decode b_U_gone 27 = .ok (.aload_n 0, 1) := by decide +kernel
theorem d_U_gone_28 : decode b_U_gone 28 = .ok (.iconst 2, 1) := by decide +kernel
theorem d_U_gone_29 : decode b_U_gone 29 = .ok (.invokevirtual 140, 3) := by decide +kernel
theorem d_U_gone_32 : decode b_U_gone 32 = .ok (.ireturn, 1) := by decide +kernel
theorem d_U_gone_33 : decode b_U_gone 33 = .ok (.aload_n 0, 1) := by decide +kernel
theorem d_U_gone_34 : decode b_U_gone 34 = .ok (.getfield 29, 3) := by decide +kernel
theorem d_U_gone_37 : decode b_U_gone 37 = .ok (.iload_n 1, 1) := by decide +kernel
theorem d_U_gone_38 : decode b_U_gone 38 = .ok (.iconst 0, 1) := by decide +kernel
theorem d_U_gone_39 : decode b_U_gone 39 = .ok (.bastore, 1) := by decide +kernel
theorem d_U_gone_40 : decode b_U_gone 40 = .ok (.aload_n 0, 1) := by decide +kernel
theorem d_U_gone_41 : decode b_U_gone 41 = .ok (.iload_n 1, 1) := by decide +kernel
theorem d_U_gone_42 : decode b_U_gone 42 = .ok (.iconst 3, 1) := by decide +kernel
theorem d_U_gone_43 : decode b_U_gone 43 = .ok (.invokevirtual 159, 3) := by decide +kernel
theorem d_U_gone_46 : decode b_U_gone 46 = .ok (.iconst 1, 1) := by decide +kernel
theorem d_U_gone_47 : decode b_U_gone 47 = .ok (.ireturn, 1) := by decide +kernel
theorem d_U_close_0 : decode b_U_close 0 = .ok (.aload_n 0, 1) := by decide +kernel
