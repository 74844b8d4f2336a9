theorem d_X_init_0 : decode b_X_init 0 = .ok (.aload_n 0, 1) := by decide +kernel
theorem d_X_init_1 : decode b_X_init 1 = .ok (.invokespecial 1, 3) := by decide +kernel
theorem d_X_init_4 : decode b_X_init 4 = .ok (.new 7, 3) := by decide +kernel
theorem d_X_init_7 : decode b_X_init 7 = .ok (.dup, 1) := by decide +kernel
theorem d_X_init_8 : decode b_X_init 8 = .ok (.iconst 0, 1) := by decide +kernel
theorem d_X_init_9 : decode b_X_init 9 = .ok (.iconst (-1), 1) := by decide +kernel
theorem d_X_init_10 : decode b_X_init 10 = .ok (.iconst (-1), 1) := by decide +kernel
theorem d_X_init_11 : decode b_X_init 11 = .ok (.iconst 0, 1) := by decide +kernel
theorem d_X_init_12 : decode b_X_init 12 = .ok (.iconst (-1), 1) := by decide +kernel
theorem d_X_init_13 : decode b_X_init 13 = .ok (.iconst (-1), 1) := by decide +kernel
theorem d_X_init_14 : decode b_X_init 14 = .ok (.invokespecial 11, 3) := by decide +kernel
theorem d_X_init_17 : decode b_X_init 17 = .ok (.astore_n 1, 1) := by decide +kernel
theorem d_X_init_18 : decode b_X_init 18 = .ok (.aload_n 0, 1) := by decide +kernel
theorem d_X_init_19 : decode b_X_init 19 = .ok (.bipush 8, 2) := by decide +kernel
theorem d_X_init_21 : decode b_X_init 21 = .ok (.anewarray 14, 3) := by decide +kernel
theorem d_X_init_24 : decode b_X_init 24 = .ok (.putfield 16, 3) := by decide +kernel
theorem d_X_init_27 : decode b_X_init 27 = .ok (.iconst 0, 1) := by decide +kernel
theorem d_X_init_28 : decode b_X_init 28 = .ok (.istore_n 2, 1) := by decide +kernel
theorem d_X_init_29 : decode b_X_init 29 = .ok (.iload_n 2, 1) := by decide +kernel
theorem d_X_init_30 : decode b_X_init 30 = .ok (.bipush 8, 2) := by decide +kernel
theorem d_X_init_32 : decode b_X_init 32 = .ok (.if_icmp .ge 23, 3) := by decide +kernel
theorem d_X_init_35 : decode b_X_init 35 = .ok (.aload_n 0, 1) := by decide +kernel
theorem d_X_init_36 : decode b_X_init 36 = .ok (.getfield 16, 3) := by decide +kernel
theorem d_X_init_39 : decode b_X_init 39 = .ok (.iload_n 2, 1) := by decide +kernel
theorem d_X_init_40 : decode b_X_init 40 = .ok (.new 14, 3) := by decide +kernel
theorem d_X_init_43 : decode b_X_init 43 = .ok (.dup, 1) := by decide +kernel
theorem d_X_init_44 : decode b_X_init 44 = .ok (.aload_n 1, 1) := by decide +kernel
theorem d_X_init_45 : decode b_X_init 45 = .ok (.invokespecial 20, 3) := by decide +kernel
theorem d_X_init_48 : decode b_X_init 48 = .ok (.aastore, 1) := by decide +kernel
theorem d_X_init_49 : decode b_X_init 49 = .ok (.iinc 2 1, 3) := by decide +kernel
theorem d_X_init_52 : decode b_X_init 52 = .ok (.goto (-23), 3) := by decide +kernel
theorem d_X_init_55 : decode b_X_init 55 = .ok (.aload_n 0, 1) := by decide +kernel
theorem d_X_init_56 : decode b_X_init 56 = .ok (.bipush 6, 2) := by decide +kernel
theorem d_X_init_58 : decode b_X_init 58 = .ok (.anewarray 23, 3) := by decide +kernel
theorem d_X_init_61 : decode b_X_init 61 = .ok (.putfield 25, 3) := by decide +kernel
theorem d_X_init_64 : decode b_X_init 64 = .ok (.iconst 0, 1) := by decide +kernel
theorem d_X_init_65 : decode b_X_init 65 = .ok (.istore_n 2, 1) := by decide +kernel
theorem d_X_init_66 : decode b_X_init 66 = .ok (.iload_n 2, 1) := by decide +kernel
theorem d_X_init_67 : decode b_X_init 67 = .ok (.bipush 6, 2) := by decide +kernel
theorem d_X_init_69 : decode b_X_init 69 = .ok (.if_icmp .ge 23, 3) := by decide +kernel
theorem d_X_init_72 : decode b_X_init 72 = .ok (.aload_n 0, 1) := by decide +kernel
theorem d_X_init_73 : decode b_X_init 73 = .ok (.getfield 25, 3) := by decide +kernel
theorem d_X_init_76 : decode b_X_init 76 = .ok (.iload_n 2, 1) := by decide +kernel
theorem d_X_init_77 : decode b_X_init 77 = .ok (.new 23, 3) := by decide +kernel
theorem d_X_init_80 : decode b_X_init 80 = .ok (.dup, 1) := by decide +kernel
theorem d_X_init_81 : decode b_X_init 81 = .ok (.aload_n 1, 1) := by decide +kernel
theorem d_X_init_82 : decode b_X_init 82 = .ok (.invokespecial 29, 3) := by decide +kernel
theorem d_X_init_85 : decode b_X_init 85 = .ok (.aastore, 1) := by decide +kernel
theorem d_X_init_86 : decode b_X_init 86 = .ok (.iinc 2 1, 3) := by decide +kernel
theorem d_X_init_89 : decode b_X_init 89 = .ok (.goto (-23), 3) := by decide +kernel
theorem d_X_init_92 : decode b_X_init 92 = .ok (.aload_n 0, 1) := by decide +kernel
theorem d_X_init_93 : decode b_X_init 93 = .ok (.new 30, 3) := by decide +kernel
theorem d_X_init_96 : decode b_X_init 96 = .ok (.dup, 1) := by decide +kernel
theorem d_X_init_97 : decode b_X_init 97 = .ok (.bipush 8, 2) := by decide +kernel
theorem d_X_init_99 : decode b_X_init 99 = .ok (.aload_n 1, 1) := by decide +kernel
theorem d_X_init_100 : decode b_X_init 100 = .ok (.invokespecial 32, 3) := by decide +kernel
theorem d_X_init_103 : decode b_X_init 103 = .ok (.putfield 35, 3) := by decide +kernel
theorem d_X_init_106 : decode b_X_init 106 = .ok (.aload_n 0, 1) := by decide +kernel
theorem d_X_init_107 : decode b_X_init 107 = .ok (.iconst 1, 1) := by decide +kernel
theorem d_X_init_108 : decode b_X_init 108 = .ok (.putfield 39, 3) := by decide +kernel
theorem d_X_init_111 : decode b_X_init 111 = .ok (.aload_n 0, 1) := by decide +kernel
theorem d_X_init_112 : decode b_X_init 112 = .ok (.sipush 4242, 3) := by decide +kernel
theorem d_X_init_115 : decode b_X_init 115 = .ok (.putfield 43, 3) := by decide +kernel
theorem d_X_init_118 : decode b_X_init 118 = .ok (.aload_n 0, 1) := by decide +kernel
theorem d_X_init_119 : decode b_X_init 119 = .ok (.aconst_null, 1) := by decide +kernel
theorem d_X_init_120 : decode b_X_init 120 = .ok (.putfield 47, 3) := by decide +kernel
theorem d_X_init_123 : decode b_X_init 123 = .ok (.return_, 1) := by decide +kernel
theorem d_X_register_0 : decode b_X_register 0 = .ok (.iload_n 1, 1) := by decide +kernel
theorem d_X_register_1 : decode b_X_register 1 = .ok (.invokestatic 51, 3) := by decide +kernel
theorem d_X_register_4 : decode b_X_register 4 = .ok (.ifCond .eq 18, 3) := by decide +kernel
theorem d_X_register_7 : decode b_X_register 7 = .ok (.iload_n 2, 1) := by decide +kernel
theorem d_X_register_8 : decode b_X_register 8 = .ok (.ifCond .lt 14, 3) := by decide +kernel
theorem d_X_register_11 : decode b_X_register 11 = .ok (.iload_n 2, 1) := by decide +kernel
theorem d_X_register_12 : decode b_X_register 12 = .ok (.sipush 9999, 3) := by decide +kernel
theorem d_X_register_15 : decode b_X_register 15 = .ok (.if_icmp .gt 7, 3) := by decide +kernel
theorem d_X_register_18 : decode b_X_register 18 = .ok (.iconst 1, 1) := by decide +kernel
theorem d_X_register_19 : decode b_X_register 19 = .ok (.goto 4, 3) := by decide +kernel
theorem d_X_register_22 : decode b_X_register 22 = .ok (.iconst 0, 1) := by decide +kernel
theorem d_X_register_23 : decode b_X_register 23 = .ok (.invokestatic 55, 3) := by decide +kernel
theorem d_X_register_26 : decode b_X_register 26 = .ok (.aload_n 0, 1) := by decide +kernel
theorem d_X_register_27 : decode b_X_register 27 = .ok (.getfield 16, 3) := by decide +kernel
theorem d_X_register_30 : decode b_X_register 30 = .ok (.iload_n 1, 1) := by decide +kernel
theorem d_X_register_31 : decode b_X_register 31 = .ok (.aaload, 1) := by decide +kernel
theorem d_X_register_32 : decode b_X_register 32 = .ok (.astore_n 3, 1) := by decide +kernel
theorem d_X_register_33 : decode b_X_register 33 = .ok (.aload_n 3, 1) := by decide +kernel
theorem d_X_register_34 : decode b_X_register 34 = .ok (.getfield 59, 3) := by decide +kernel
theorem d_X_register_37 : decode b_X_register 37 = .ok (.ifCond .ne 7, 3) := by decide +kernel
theorem d_X_register_40 : decode b_X_register 40 = .ok (.iconst 1, 1) := by decide +kernel
theorem d_X_register_41 : decode b_X_register 41 = .ok (.goto 4, 3) := by decide +kernel
theorem d_X_register_44 : decode b_X_register 44 = .ok (.iconst 0, 1) := by decide +kernel
theorem d_X_register_45 : decode b_X_register 45 = .ok (.invokestatic 62, 3) := by decide +kernel
theorem d_X_register_48 : decode b_X_register 48 = .ok (.aload_n 3, 1) := by decide +kernel
theorem d_X_register_49 : decode b_X_register 49 = .ok (.iconst 1, 1) := by decide +kernel
theorem d_X_register_50 : decode b_X_register 50 = .ok (.putfield 59, 3) := by decide +kernel
theorem d_X_register_53 : decode b_X_register 53 = .ok (.aload_n 3, 1) := by decide +kernel
theorem d_X_register_54 : decode b_X_register 54 = .ok (.iload_n 2, 1) := by decide +kernel
theorem d_X_register_55 : decode b_X_register 55 = .ok (.putfield 65, 3) := by decide +kernel
theorem d_X_register_58 : decode b_X_register 58 = .ok (.iconst 1, 1) := by decide +kernel
theorem d_X_register_59 : decode b_X_register 59 = .ok (.ireturn, 1) := by decide +kernel
theorem d_X_connect_0 : decode b_X_connect 0 = .ok (.iload_n 1, 1) := by decide +kernel
theorem d_X_connect_1 : decode b_X_connect 1 = .ok (.invokestatic 68, 3) := by decide +kernel
theorem d_X_connect_4 : decode b_X_connect 4 = .ok (.invokestatic 55, 3) := by decide +kernel
theorem d_X_connect_7 : decode b_X_connect 7 = .ok (.aload_n 0, 1) := by decide +kernel
theorem d_X_connect_8 : decode b_X_connect 8 = .ok (.getfield 25, 3) := by decide +kernel
theorem d_X_connect_11 : decode b_X_connect 11 = .ok (.iload_n 1, 1) := by decide +kernel
theorem d_X_connect_12 : decode b_X_connect 12 = .ok (.aaload, 1) := by decide +kernel
theorem d_X_connect_13 : decode b_X_connect 13 = .ok (.astore_n 2, 1) := by decide +kernel
theorem d_X_connect_14 : decode b_X_connect 14 = .ok (.aload_n 2, 1) := by decide +kernel
theorem d_X_connect_15 : decode b_X_connect 15 = .ok (.getfield 71, 3) := by decide +kernel
theorem d_X_connect_18 : decode b_X_connect 18 = .ok (.ifCond .ne 7, 3) := by decide +kernel
theorem d_X_connect_21 : decode b_X_connect 21 = .ok (.iconst 1, 1) := by decide +kernel
theorem d_X_connect_22 : decode b_X_connect 22 = .ok (.goto 4, 3) := by decide +kernel
theorem d_X_connect_25 : decode b_X_connect 25 = .ok (.iconst 0, 1) := by decide +kernel
theorem d_X_connect_26 : decode b_X_connect 26 = .ok (.invokestatic 62, 3) := by decide +kernel
theorem d_X_connect_29 : decode b_X_connect 29 = .ok (.aload_n 2, 1) := by decide +kernel
theorem d_X_connect_30 : decode b_X_connect 30 = .ok (.iconst 1, 1) := by decide +kernel
theorem d_X_connect_31 : decode b_X_connect 31 = .ok (.putfield 71, 3) := by decide +kernel
theorem d_X_connect_34 : decode b_X_connect 34 = .ok (.aload_n 2, 1) := by decide +kernel
theorem d_X_connect_35 : decode b_X_connect 35 = .ok (.getfield 74, 3) := by decide +kernel
theorem d_X_connect_38 : decode b_X_connect 38 = .ok (.invokevirtual 77, 3) := by decide +kernel
theorem d_X_connect_41 : decode b_X_connect 41 = .ok (.iconst 1, 1) := by decide +kernel
theorem d_X_connect_42 : decode b_X_connect 42 = .ok (.ireturn, 1) := by decide +kernel
theorem d_X_login_0 : decode b_X_login 0 = .ok (.iload_n 1, 1) := by decide +kernel
theorem d_X_login_1 : decode b_X_login 1 = .ok (.invokestatic 68, 3) := by decide +kernel
theorem d_X_login_4 : decode b_X_login 4 = .ok (.ifCond .eq 14, 3) := by decide +kernel
theorem d_X_login_7 : decode b_X_login 7 = .ok (.iload_n 2, 1) := by decide +kernel
theorem d_X_login_8 : decode b_X_login 8 = .ok (.invokestatic 51, 3) := by decide +kernel
theorem d_X_login_11 : decode b_X_login 11 = .ok (.ifCond .eq 7, 3) := by decide +kernel
theorem d_X_login_14 : decode b_X_login 14 = .ok (.iconst 1, 1) := by decide +kernel
theorem d_X_login_15 : decode b_X_login 15 = .ok (.goto 4, 3) := by decide +kernel
theorem d_X_login_18 : decode b_X_login 18 = .ok (.iconst 0, 1) := by decide +kernel
theorem d_X_login_19 : decode b_X_login 19 = .ok (.invokestatic 55, 3) := by decide +kernel
theorem d_X_login_22 : decode b_X_login 22 = .ok (.aload_n 0, 1) := by decide +kernel
theorem d_X_login_23 : decode b_X_login 23 = .ok (.getfield 25, 3) := by decide +kernel
theorem d_X_login_26 : decode b_X_login 26 = .ok (.iload_n 1, 1) := by decide +kernel
theorem d_X_login_27 : decode b_X_login 27 = .ok (.aaload, 1) := by decide +kernel
theorem d_X_login_28 : decode b_X_login 28 = .ok (.astore_n 3, 1) := by decide +kernel
theorem d_X_login_29 : decode b_X_login 29 = .ok (.aload_n 3, 1) := by decide +kernel
theorem d_X_login_30 : decode b_X_login 30 = .ok (.getfield 71, 3) := by decide +kernel
theorem d_X_login_33 : decode b_X_login 33 = .ok (.iconst 1, 1) := by decide +kernel
theorem d_X_login_34 : decode b_X_login 34 = .ok (.if_icmp .ne 7, 3) := by decide +kernel
theorem d_X_login_37 : decode b_X_login 37 = .ok (.iconst 1, 1) := by decide +kernel
theorem d_X_login_38 : decode b_X_login 38 = .ok (.goto 4, 3) := by decide +kernel
theorem d_X_login_41 : decode b_X_login 41 = .ok (.iconst 0, 1) := by decide +kernel
theorem d_X_login_42 : decode b_X_login 42 = .ok (.invokestatic 62, 3) := by decide +kernel
theorem d_X_login_45 : decode b_X_login 45 = .ok (.aload_n 3, 1) := by decide +kernel
theorem d_X_login_46 : decode b_X_login 46 = .ok (.iconst 2, 1) := by decide +kernel
theorem d_X_login_47 : decode b_X_login 47 = .ok (.putfield 71, 3) := by decide +kernel
theorem d_X_login_50 : decode b_X_login 50 = .ok (.aload_n 3, 1) := by decide +kernel
theorem d_X_login_51 : decode b_X_login 51 = .ok (.iload_n 2, 1) := by decide +kernel
theorem d_X_login_52 : decode b_X_login 52 = .ok (.putfield 80, 3) := by decide +kernel
theorem d_X_login_55 : decode b_X_login 55 = .ok (.aload_n 3, 1) := by decide +kernel
theorem d_X_login_56 : decode b_X_login 56 = .ok (.aload_n 0, 1) := by decide +kernel
theorem d_X_login_57 : decode b_X_login 57 = .ok (.getfield 43, 3) := by decide +kernel
theorem d_X_login_60 : decode b_X_login 60 = .ok (.putfield 83, 3) := by decide +kernel
theorem d_X_login_63 : decode b_X_login 63 = .ok (.aload_n 0, 1) := by decide +kernel
theorem d_X_login_64 : decode b_X_login 64 = .ok (.aload_n 0, 1) := by decide +kernel
theorem d_X_login_65 : decode b_X_login 65 = .ok (.getfield 43, 3) := by decide +kernel
theorem d_X_login_68 : decode b_X_login 68 = .ok (.sipush 7919, 3) := by decide +kernel
theorem d_X_login_71 : decode b_X_login 71 = .ok (.iadd, 1) := by decide +kernel
theorem d_X_login_72 : decode b_X_login 72 = .ok (.sipush 10000, 3) := by decide +kernel
theorem d_X_login_75 : decode b_X_login 75 = .ok (.irem, 1) := by decide +kernel
theorem d_X_login_76 : decode b_X_login 76 = .ok (.putfield 43, 3) := by decide +kernel
theorem d_X_login_79 : decode b_X_login 79 = .ok (.aload_n 3, 1) := by decide +kernel
theorem d_X_login_80 : decode b_X_login 80 = .ok (.getfield 83, 3) := by decide +kernel
theorem d_X_login_83 : decode b_X_login 83 = .ok (.ireturn, 1) := by decide +kernel
theorem d_X_prove_0 : decode b_X_prove 0 = .ok (.iload_n 1, 1) := by decide +kernel
theorem d_X_prove_1 : decode b_X_prove 1 = .ok (.invokestatic 68, 3) := by decide +kernel
theorem d_X_prove_4 : decode b_X_prove 4 = .ok (.invokestatic 55, 3) := by decide +kernel
theorem d_X_prove_7 : decode b_X_prove 7 = .ok (.aload_n 0, 1) := by decide +kernel
theorem d_X_prove_8 : decode b_X_prove 8 = .ok (.getfield 25, 3) := by decide +kernel
theorem d_X_prove_11 : decode b_X_prove 11 = .ok (.iload_n 1, 1) := by decide +kernel
theorem d_X_prove_12 : decode b_X_prove 12 = .ok (.aaload, 1) := by decide +kernel
theorem d_X_prove_13 : decode b_X_prove 13 = .ok (.astore_n 3, 1) := by decide +kernel
theorem d_X_prove_14 : decode b_X_prove 14 = .ok (.aload_n 3, 1) := by decide +kernel
theorem d_X_prove_15 : decode b_X_prove 15 = .ok (.getfield 71, 3) := by decide +kernel
theorem d_X_prove_18 : decode b_X_prove 18 = .ok (.iconst 2, 1) := by decide +kernel
theorem d_X_prove_19 : decode b_X_prove 19 = .ok (.if_icmp .ne 7, 3) := by decide +kernel
theorem d_X_prove_22 : decode b_X_prove 22 = .ok (.iconst 1, 1) := by decide +kernel
theorem d_X_prove_23 : decode b_X_prove 23 = .ok (.goto 4, 3) := by decide +kernel
theorem d_X_prove_26 : decode b_X_prove 26 = .ok (.iconst 0, 1) := by decide +kernel
theorem d_X_prove_27 : decode b_X_prove 27 = .ok (.invokestatic 62, 3) := by decide +kernel
theorem d_X_prove_30 : decode b_X_prove 30 = .ok (.aload_n 0, 1) := by decide +kernel
theorem d_X_prove_31 : decode b_X_prove 31 = .ok (.aload_n 3, 1) := by decide +kernel
theorem d_X_prove_32 : decode b_X_prove 32 = .ok (.iload_n 2, 1) := by decide +kernel
theorem d_X_prove_33 : decode b_X_prove 33 = .ok (.invokevirtual 86, 3) := by decide +kernel
theorem d_X_prove_36 : decode b_X_prove 36 = .ok (.ifCond .ne 21, 3) := by decide +kernel
theorem d_X_prove_39 : decode b_X_prove 39 = .ok (.aload_n 3, 1) := by decide +kernel
theorem d_X_prove_40 : decode b_X_prove 40 = .ok (.iconst 1, 1) := by decide +kernel
theorem d_X_prove_41 : decode b_X_prove 41 = .ok (.putfield 71, 3) := by decide +kernel
theorem d_X_prove_44 : decode b_X_prove 44 = .ok (.aload_n 3, 1) := by decide +kernel
theorem d_X_prove_45 : decode b_X_prove 45 = .ok (.iconst (-1), 1) := by decide +kernel
theorem d_X_prove_46 : decode b_X_prove 46 = .ok (.putfield 80, 3) := by decide +kernel
theorem d_X_prove_49 : decode b_X_prove 49 = .ok (.new 90, 3) := by decide +kernel
theorem d_X_prove_52 : decode b_X_prove 52 = .ok (.dup, 1) := by decide +kernel
theorem d_X_prove_53 : decode b_X_prove 53 = .ok (.invokespecial 92, 3) := by decide +kernel
theorem d_X_prove_56 : decode b_X_prove 56 = .ok (.athrow, 1) := by decide +kernel
theorem d_X_prove_57 : decode b_X_prove 57 = .ok (.aload_n 3, 1) := by decide +kernel
theorem d_X_prove_58 : decode b_X_prove 58 = .ok (.iconst 3, 1) := by decide +kernel
theorem d_X_prove_59 : decode b_X_prove 59 = .ok (.putfield 71, 3) := by decide +kernel
theorem d_X_prove_62 : decode b_X_prove 62 = .ok (.iconst 1, 1) := by decide +kernel
theorem d_X_prove_63 : decode b_X_prove 63 = .ok (.ireturn, 1) := by decide +kernel
theorem d_X_bind_0 : decode b_X_bind 0 = .ok (.iload_n 1, 1) := by decide +kernel
theorem d_X_bind_1 : decode b_X_bind 1 = .ok (.invokestatic 68, 3) := by decide +kernel
theorem d_X_bind_4 : decode b_X_bind 4 = .ok (.ifCond .eq 16, 3) := by decide +kernel
theorem d_X_bind_7 : decode b_X_bind 7 = .ok (.iload_n 2, 1) := by decide +kernel
theorem d_X_bind_8 : decode b_X_bind 8 = .ok (.ifCond .lt 12, 3) := by decide +kernel
theorem d_X_bind_11 : decode b_X_bind 11 = .ok (.iload_n 2, 1) := by decide +kernel
theorem d_X_bind_12 : decode b_X_bind 12 = .ok (.iconst 3, 1) := by decide +kernel
theorem d_X_bind_13 : decode b_X_bind 13 = .ok (.if_icmp .ge 7, 3) := by decide +kernel
theorem d_X_bind_16 : decode b_X_bind 16 = .ok (.iconst 1, 1) := by decide +kernel
theorem d_X_bind_17 : decode b_X_bind 17 = .ok (.goto 4, 3) := by decide +kernel
theorem d_X_bind_20 : decode b_X_bind 20 = .ok (.iconst 0, 1) := by decide +kernel
theorem d_X_bind_21 : decode b_X_bind 21 = .ok (.invokestatic 55, 3) := by decide +kernel
theorem d_X_bind_24 : decode b_X_bind 24 = .ok (.aload_n 0, 1) := by decide +kernel
theorem d_X_bind_25 : decode b_X_bind 25 = .ok (.getfield 25, 3) := by decide +kernel
theorem d_X_bind_28 : decode b_X_bind 28 = .ok (.iload_n 1, 1) := by decide +kernel
theorem d_X_bind_29 : decode b_X_bind 29 = .ok (.aaload, 1) := by decide +kernel
theorem d_X_bind_30 : decode b_X_bind 30 = .ok (.astore_n 3, 1) := by decide +kernel
theorem d_X_bind_31 : decode b_X_bind 31 = .ok (.aload_n 3, 1) := by decide +kernel
theorem d_X_bind_32 : decode b_X_bind 32 = .ok (.getfield 71, 3) := by decide +kernel
theorem d_X_bind_35 : decode b_X_bind 35 = .ok (.iconst 3, 1) := by decide +kernel
theorem d_X_bind_36 : decode b_X_bind 36 = .ok (.if_icmp .ne 7, 3) := by decide +kernel
theorem d_X_bind_39 : decode b_X_bind 39 = .ok (.iconst 1, 1) := by decide +kernel
theorem d_X_bind_40 : decode b_X_bind 40 = .ok (.goto 4, 3) := by decide +kernel
theorem d_X_bind_43 : decode b_X_bind 43 = .ok (.iconst 0, 1) := by decide +kernel
theorem d_X_bind_44 : decode b_X_bind 44 = .ok (.invokestatic 62, 3) := by decide +kernel
theorem d_X_bind_47 : decode b_X_bind 47 = .ok (.aload_n 0, 1) := by decide +kernel
theorem d_X_bind_48 : decode b_X_bind 48 = .ok (.aload_n 3, 1) := by decide +kernel
theorem d_X_bind_49 : decode b_X_bind 49 = .ok (.getfield 80, 3) := by decide +kernel
theorem d_X_bind_52 : decode b_X_bind 52 = .ok (.iload_n 2, 1) := by decide +kernel
theorem d_X_bind_53 : decode b_X_bind 53 = .ok (.invokevirtual 93, 3) := by decide +kernel
theorem d_X_bind_56 : decode b_X_bind 56 = .ok (.astore 4, 2) := by decide +kernel
theorem d_X_bind_58 : decode b_X_bind 58 = .ok (.aload 4, 2) := by decide +kernel
theorem d_X_bind_60 : decode b_X_bind 60 = .ok (.ifnull 9, 3) := by decide +kernel
theorem d_X_bind_63 : decode b_X_bind 63 = .ok (.aload_n 0, 1) := by decide +kernel
theorem d_X_bind_64 : decode b_X_bind 64 = .ok (.aload 4, 2) := by decide +kernel
theorem d_X_bind_66 : decode b_X_bind 66 = .ok (.invokevirtual 97, 3) := by decide +kernel
theorem d_X_bind_69 : decode b_X_bind 69 = .ok (.aload_n 3, 1) := by decide +kernel
theorem d_X_bind_70 : decode b_X_bind 70 = .ok (.iconst 4, 1) := by decide +kernel
theorem d_X_bind_71 : decode b_X_bind 71 = .ok (.putfield 71, 3) := by decide +kernel
theorem d_X_bind_74 : decode b_X_bind 74 = .ok (.aload_n 3, 1) := by decide +kernel
theorem d_X_bind_75 : decode b_X_bind 75 = .ok (.iload_n 2, 1) := by decide +kernel
theorem d_X_bind_76 : decode b_X_bind 76 = .ok (.putfield 101, 3) := by decide +kernel
theorem d_X_bind_79 : decode b_X_bind 79 = .ok (.aload 4, 2) := by decide +kernel
theorem d_X_bind_81 : decode b_X_bind 81 = .ok (.ifnull 7, 3) := by decide +kernel
theorem d_X_bind_84 : decode b_X_bind 84 = .ok (.iconst 1, 1) := by decide +kernel
theorem d_X_bind_85 : decode b_X_bind 85 = .ok (.goto 4, 3) := by decide +kernel
theorem d_X_bind_88 : decode b_X_bind 88 = .ok (.iconst 0, 1) := by decide +kernel
theorem d_X_bind_89 : decode b_X_bind 89 = .ok (.ireturn, 1) := by decide +kernel
theorem d_X_here_0 : decode b_X_here 0 = .ok (.iload_n 1, 1) := by decide +kernel
theorem d_X_here_1 : decode b_X_here 1 = .ok (.invokestatic 68, 3) := by decide +kernel
theorem d_X_here_4 : decode b_X_here 4 = .ok (.ifCond .eq 18, 3) := by decide +kernel
theorem d_X_here_7 : decode b_X_here 7 = .ok (.iload_n 2, 1) := by decide +kernel
theorem d_X_here_8 : decode b_X_here 8 = .ok (.bipush (-3), 2) := by decide +kernel
theorem d_X_here_10 : decode b_X_here 10 = .ok (.if_icmp .lt 12, 3) := by decide +kernel
theorem d_X_here_13 : decode b_X_here 13 = .ok (.iload_n 2, 1) := by decide +kernel
theorem d_X_here_14 : decode b_X_here 14 = .ok (.iconst 3, 1) := by decide +kernel
theorem d_X_here_15 : decode b_X_here 15 = .ok (.if_icmp .gt 7, 3) := by decide +kernel
theorem d_X_here_18 : decode b_X_here 18 = .ok (.iconst 1, 1) := by decide +kernel
theorem d_X_here_19 : decode b_X_here 19 = .ok (.goto 4, 3) := by decide +kernel
theorem d_X_here_22 : decode b_X_here 22 = .ok (.iconst 0, 1) := by decide +kernel
theorem d_X_here_23 : decode b_X_here 23 = .ok (.invokestatic 55, 3) := by decide +kernel
theorem d_X_here_26 : decode b_X_here 26 = .ok (.aload_n 0, 1) := by decide +kernel
theorem d_X_here_27 : decode b_X_here 27 = .ok (.getfield 25, 3) := by decide +kernel
theorem d_X_here_30 : decode b_X_here 30 = .ok (.iload_n 1, 1) := by decide +kernel
theorem d_X_here_31 : decode b_X_here 31 = .ok (.aaload, 1) := by decide +kernel
theorem d_X_here_32 : decode b_X_here 32 = .ok (.astore_n 3, 1) := by decide +kernel
theorem d_X_here_33 : decode b_X_here 33 = .ok (.aload_n 3, 1) := by decide +kernel
theorem d_X_here_34 : decode b_X_here 34 = .ok (.getfield 71, 3) := by decide +kernel
theorem d_X_here_37 : decode b_X_here 37 = .ok (.iconst 4, 1) := by decide +kernel
theorem d_X_here_38 : decode b_X_here 38 = .ok (.if_icmp .ne 7, 3) := by decide +kernel
theorem d_X_here_41 : decode b_X_here 41 = .ok (.iconst 1, 1) := by decide +kernel
theorem d_X_here_42 : decode b_X_here 42 = .ok (.goto 4, 3) := by decide +kernel
theorem d_X_here_45 : decode b_X_here 45 = .ok (.iconst 0, 1) := by decide +kernel
theorem d_X_here_46 : decode b_X_here 46 = .ok (.invokestatic 62, 3) := by decide +kernel
theorem d_X_here_49 : decode b_X_here 49 = .ok (.aload_n 3, 1) := by decide +kernel
theorem d_X_here_50 : decode b_X_here 50 = .ok (.getfield 104, 3) := by decide +kernel
theorem d_X_here_53 : decode b_X_here 53 = .ok (.istore 4, 2) := by decide +kernel
theorem d_X_here_55 : decode b_X_here 55 = .ok (.aload_n 3, 1) := by decide +kernel
theorem d_X_here_56 : decode b_X_here 56 = .ok (.iconst 1, 1) := by decide +kernel
theorem d_X_here_57 : decode b_X_here 57 = .ok (.putfield 104, 3) := by decide +kernel
theorem d_X_here_60 : decode b_X_here 60 = .ok (.aload_n 3, 1) := by decide +kernel
theorem d_X_here_61 : decode b_X_here 61 = .ok (.iload_n 2, 1) := by decide +kernel
theorem d_X_here_62 : decode b_X_here 62 = .ok (.putfield 107, 3) := by decide +kernel
theorem d_X_here_65 : decode b_X_here 65 = .ok (.aload_n 0, 1) := by decide +kernel
theorem d_X_here_66 : decode b_X_here 66 = .ok (.aload_n 3, 1) := by decide +kernel
theorem d_X_here_67 : decode b_X_here 67 = .ok (.iconst 2, 1) := by decide +kernel
theorem d_X_here_68 : decode b_X_here 68 = .ok (.invokevirtual 110, 3) := by decide +kernel
theorem d_X_here_71 : decode b_X_here 71 = .ok (.iload 4, 2) := by decide +kernel
theorem d_X_here_73 : decode b_X_here 73 = .ok (.ifCond .ne 17, 3) := by decide +kernel
theorem d_X_here_76 : decode b_X_here 76 = .ok (.aload_n 0, 1) := by decide +kernel
theorem d_X_here_77 : decode b_X_here 77 = .ok (.aload_n 3, 1) := by decide +kernel
theorem d_X_here_78 : decode b_X_here 78 = .ok (.invokevirtual 114, 3) := by decide +kernel
theorem d_X_here_81 : decode b_X_here 81 = .ok (.iload_n 2, 1) := by decide +kernel
theorem d_X_here_82 : decode b_X_here 82 = .ok (.ifCond .lt 8, 3) := by decide +kernel
theorem d_X_here_85 : decode b_X_here 85 = .ok (.aload_n 0, 1) := by decide +kernel
theorem d_X_here_86 : decode b_X_here 86 = .ok (.aload_n 3, 1) := by decide +kernel
theorem d_X_here_87 : decode b_X_here 87 = .ok (.invokevirtual 117, 3) := by decide +kernel
theorem d_X_here_90 : decode b_X_here 90 = .ok (.aload_n 3, 1) := by decide +kernel
theorem d_X_here_91 : decode b_X_here 91 = .ok (.getfield 74, 3) := by decide +kernel
theorem d_X_here_94 : decode b_X_here 94 = .ok (.getfield 120, 3) := by decide +kernel
theorem d_X_here_97 : decode b_X_here 97 = .ok (.ireturn, 1) := by decide +kernel
theorem d_X_gone_0 : decode b_X_gone 0 = .ok (.iload_n 1, 1) := by decide +kernel
theorem d_X_gone_1 : decode b_X_gone 1 = .ok (.invokestatic 68, 3) := by decide +kernel
theorem d_X_gone_4 : decode b_X_gone 4 = .ok (.invokestatic 55, 3) := by decide +kernel
theorem d_X_gone_7 : decode b_X_gone 7 = .ok (.aload_n 0, 1) := by decide +kernel
theorem d_X_gone_8 : decode b_X_gone 8 = .ok (.getfield 25, 3) := by decide +kernel
theorem d_X_gone_11 : decode b_X_gone 11 = .ok (.iload_n 1, 1) := by decide +kernel
theorem d_X_gone_12 : decode b_X_gone 12 = .ok (.aaload, 1) := by decide +kernel
theorem d_X_gone_13 : decode b_X_gone 13 = .ok (.astore_n 2, 1) := by decide +kernel
theorem d_X_gone_14 : decode b_X_gone 14 = .ok (.aload_n 2, 1) := by decide +kernel
theorem d_X_gone_15 : decode b_X_gone 15 = .ok (.getfield 104, 3) := by decide +kernel
theorem d_X_gone_18 : decode b_X_gone 18 = .ok (.invokestatic 62, 3) := by decide +kernel
theorem d_X_gone_21 : decode b_X_gone 21 = .ok (.aload_n 2, 1) := by decide +kernel
theorem d_X_gone_22 : decode b_X_gone 22 = .ok (.iconst 0, 1) := by decide +kernel
theorem d_X_gone_23 : decode b_X_gone 23 = .ok (.putfield 104, 3) := by decide +kernel
theorem d_X_gone_26 : decode b_X_gone 26 = .ok (.aload_n 0, 1) := by decide +kernel
theorem d_X_gone_27 : decode b_X_gone 27 = .ok (.aload_n 2, 1) := by decide +kernel
theorem d_X_gone_28 : decode b_X_gone 28 = .ok (.iconst 3, 1) := by decide +kernel
theorem d_X_gone_29 : decode b_X_gone 29 = .ok (.invokevirtual 110, 3) := by decide +kernel
theorem d_X_gone_32 : decode b_X_gone 32 = .ok (.iconst 1, 1) := by decide +kernel
theorem d_X_gone_33 : decode b_X_gone 33 = .ok (.ireturn, 1) := by decide +kernel
theorem d_X_close_0 : decode b_X_close 0 = .ok (.iload_n 1, 1) := by decide +kernel
theorem d_X_close_1 : decode b_X_close 1 = .ok (.invokestatic 68, 3) := by decide +kernel
theorem d_X_close_4 : decode b_X_close 4 = .ok (.invokestatic 55, 3) := by decide +kernel
theorem d_X_close_7 : decode b_X_close 7 = .ok (.aload_n 0, 1) := by decide +kernel
theorem d_X_close_8 : decode b_X_close 8 = .ok (.getfield 25, 3) := by decide +kernel
theorem d_X_close_11 : decode b_X_close 11 = .ok (.iload_n 1, 1) := by decide +kernel
theorem d_X_close_12 : decode b_X_close 12 = .ok (.aaload, 1) := by decide +kernel
theorem d_X_close_13 : decode b_X_close 13 = .ok (.astore_n 2, 1) := by decide +kernel
theorem d_X_close_14 : decode b_X_close 14 = .ok (.aload_n 2, 1) := by decide +kernel
theorem d_X_close_15 : decode b_X_close 15 = .ok (.getfield 71, 3) := by decide +kernel
theorem d_X_close_18 : decode b_X_close 18 = .ok (.ifCond .eq 7, 3) := by decide +kernel
theorem d_X_close_21 : decode b_X_close 21 = .ok (.iconst 1, 1) := by decide +kernel
theorem d_X_close_22 : decode b_X_close 22 = .ok (.goto 4, 3) := by decide +kernel
theorem d_X_close_25 : decode b_X_close 25 = .ok (.iconst 0, 1) := by decide +kernel
theorem d_X_close_26 : decode b_X_close 26 = .ok (.invokestatic 62, 3) := by decide +kernel
theorem d_X_close_29 : decode b_X_close 29 = .ok (.aload_n 2, 1) := by decide +kernel
theorem d_X_close_30 : decode b_X_close 30 = .ok (.getfield 71, 3) := by decide +kernel
theorem d_X_close_33 : decode b_X_close 33 = .ok (.istore_n 3, 1) := by decide +kernel
theorem d_X_close_34 : decode b_X_close 34 = .ok (.aload_n 0, 1) := by decide +kernel
theorem d_X_close_35 : decode b_X_close 35 = .ok (.aload_n 2, 1) := by decide +kernel
theorem d_X_close_36 : decode b_X_close 36 = .ok (.invokevirtual 97, 3) := by decide +kernel
theorem d_X_close_39 : decode b_X_close 39 = .ok (.iload_n 3, 1) := by decide +kernel
theorem d_X_close_40 : decode b_X_close 40 = .ok (.ireturn, 1) := by decide +kernel
theorem d_X_message_0 : decode b_X_message 0 = .ok (.iload_n 1, 1) := by decide +kernel
theorem d_X_message_1 : decode b_X_message 1 = .ok (.invokestatic 68, 3) := by decide +kernel
theorem d_X_message_4 : decode b_X_message 4 = .ok (.ifCond .eq 24, 3) := by decide +kernel
theorem d_X_message_7 : decode b_X_message 7 = .ok (.iload_n 2, 1) := by decide +kernel
theorem d_X_message_8 : decode b_X_message 8 = .ok (.invokestatic 51, 3) := by decide +kernel
theorem d_X_message_11 : decode b_X_message 11 = .ok (.ifCond .eq 17, 3) := by decide +kernel
theorem d_X_message_14 : decode b_X_message 14 = .ok (.iload_n 3, 1) := by decide +kernel
theorem d_X_message_15 : decode b_X_message 15 = .ok (.iconst (-1), 1) := by decide +kernel
theorem d_X_message_16 : decode b_X_message 16 = .ok (.if_icmp .lt 12, 3) := by decide +kernel
theorem d_X_message_19 : decode b_X_message 19 = .ok (.iload_n 3, 1) := by decide +kernel
theorem d_X_message_20 : decode b_X_message 20 = .ok (.iconst 3, 1) := by decide +kernel
theorem d_X_message_21 : decode b_X_message 21 = .ok (.if_icmp .ge 7, 3) := by decide +kernel
theorem d_X_message_24 : decode b_X_message 24 = .ok (.iconst 1, 1) := by decide +kernel
theorem d_X_message_25 : decode b_X_message 25 = .ok (.goto 4, 3) := by decide +kernel
theorem d_X_message_28 : decode b_X_message 28 = .ok (.iconst 0, 1) := by decide +kernel
theorem d_X_message_29 : decode b_X_message 29 = .ok (.invokestatic 55, 3) := by decide +kernel
theorem d_X_message_32 : decode b_X_message 32 = .ok (.aload_n 0, 1) := by decide +kernel
theorem d_X_message_33 : decode b_X_message 33 = .ok (.getfield 25, 3) := by decide +kernel
theorem d_X_message_36 : decode b_X_message 36 = .ok (.iload_n 1, 1) := by decide +kernel
theorem d_X_message_37 : decode b_X_message 37 = .ok (.aaload, 1) := by decide +kernel
theorem d_X_message_38 : decode b_X_message 38 = .ok (.astore 5, 2) := by decide +kernel
theorem d_X_message_40 : decode b_X_message 40 = .ok (.aload 5, 2) := by decide +kernel
theorem d_X_message_42 : decode b_X_message 42 = .ok (.getfield 71, 3) := by decide +kernel
theorem d_X_message_45 : decode b_X_message 45 = .ok (.iconst 4, 1) := by decide +kernel
theorem d_X_message_46 : decode b_X_message 46 = .ok (.if_icmp .ne 7, 3) := by decide +kernel
theorem d_X_message_49 : decode b_X_message 49 = .ok (.iconst 1, 1) := by decide +kernel
theorem d_X_message_50 : decode b_X_message 50 = .ok (.goto 4, 3) := by decide +kernel
theorem d_X_message_53 : decode b_X_message 53 = .ok (.iconst 0, 1) := by decide +kernel
theorem d_X_message_54 : decode b_X_message 54 = .ok (.invokestatic 62, 3) := by decide +kernel
theorem d_X_message_57 : decode b_X_message 57 = .ok (.aload_n 0, 1) := by decide +kernel
theorem d_X_message_58 : decode b_X_message 58 = .ok (.new 7, 3) := by decide +kernel
theorem d_X_message_61 : decode b_X_message 61 = .ok (.dup, 1) := by decide +kernel
theorem d_X_message_62 : decode b_X_message 62 = .ok (.iconst 1, 1) := by decide +kernel
theorem d_X_message_63 : decode b_X_message 63 = .ok (.aload 5, 2) := by decide +kernel
theorem d_X_message_65 : decode b_X_message 65 = .ok (.getfield 80, 3) := by decide +kernel
theorem d_X_message_68 : decode b_X_message 68 = .ok (.aload 5, 2) := by decide +kernel
theorem d_X_message_70 : decode b_X_message 70 = .ok (.getfield 101, 3) := by decide +kernel
theorem d_X_message_73 : decode b_X_message 73 = .ok (.iload 4, 2) := by decide +kernel
theorem d_X_message_75 : decode b_X_message 75 = .ok (.iload_n 2, 1) := by decide +kernel
theorem d_X_message_76 : decode b_X_message 76 = .ok (.iload_n 3, 1) := by decide +kernel
theorem d_X_message_77 : decode b_X_message 77 = .ok (.invokespecial 11, 3) := by decide +kernel
theorem d_X_message_80 : decode b_X_message 80 = .ok (.invokevirtual 123, 3) := by decide +kernel
theorem d_X_message_83 : decode b_X_message 83 = .ok (.iconst 1, 1) := by decide +kernel
theorem d_X_message_84 : decode b_X_message 84 = .ok (.ireturn, 1) := by decide +kernel
theorem d_X_subscribe_0 : decode b_X_subscribe 0 = .ok (.iload_n 1, 1) := by decide +kernel
theorem d_X_subscribe_1 : decode b_X_subscribe 1 = .ok (.invokestatic 68, 3) := by decide +kernel
theorem d_X_subscribe_4 : decode b_X_subscribe 4 = .ok (.ifCond .eq 25, 3) := by decide +kernel
theorem d_X_subscribe_7 : decode b_X_subscribe 7 = .ok (.iload_n 2, 1) := by decide +kernel
theorem d_X_subscribe_8 : decode b_X_subscribe 8 = .ok (.invokestatic 51, 3) := by decide +kernel
theorem d_X_subscribe_11 : decode b_X_subscribe 11 = .ok (.ifCond .eq 18, 3) := by decide +kernel
theorem d_X_subscribe_14 : decode b_X_subscribe 14 = .ok (.iload_n 3, 1) := by decide +kernel
theorem d_X_subscribe_15 : decode b_X_subscribe 15 = .ok (.iconst 4, 1) := by decide +kernel
theorem d_X_subscribe_16 : decode b_X_subscribe 16 = .ok (.if_icmp .lt 13, 3) := by decide +kernel
theorem d_X_subscribe_19 : decode b_X_subscribe 19 = .ok (.iload_n 3, 1) := by decide +kernel
theorem d_X_subscribe_20 : decode b_X_subscribe 20 = .ok (.bipush 7, 2) := by decide +kernel
theorem d_X_subscribe_22 : decode b_X_subscribe 22 = .ok (.if_icmp .gt 7, 3) := by decide +kernel
theorem d_X_subscribe_25 : decode b_X_subscribe 25 = .ok (.iconst 1, 1) := by decide +kernel
theorem d_X_subscribe_26 : decode b_X_subscribe 26 = .ok (.goto 4, 3) := by decide +kernel
theorem d_X_subscribe_29 : decode b_X_subscribe 29 = .ok (.iconst 0, 1) := by decide +kernel
theorem d_X_subscribe_30 : decode b_X_subscribe 30 = .ok (.invokestatic 55, 3) := by decide +kernel
theorem d_X_subscribe_33 : decode b_X_subscribe 33 = .ok (.aload_n 0, 1) := by decide +kernel
theorem d_X_subscribe_34 : decode b_X_subscribe 34 = .ok (.getfield 25, 3) := by decide +kernel
theorem d_X_subscribe_37 : decode b_X_subscribe 37 = .ok (.iload_n 1, 1) := by decide +kernel
theorem d_X_subscribe_38 : decode b_X_subscribe 38 = .ok (.aaload, 1) := by decide +kernel
theorem d_X_subscribe_39 : decode b_X_subscribe 39 = .ok (.astore 4, 2) := by decide +kernel
theorem d_X_subscribe_41 : decode b_X_subscribe 41 = .ok (.aload 4, 2) := by decide +kernel
theorem d_X_subscribe_43 : decode b_X_subscribe 43 = .ok (.getfield 80, 3) := by decide +kernel
theorem d_X_subscribe_46 : decode b_X_subscribe 46 = .ok (.iload_n 2, 1) := by decide +kernel
theorem d_X_subscribe_47 : decode b_X_subscribe 47 = .ok (.if_icmp .eq 7, 3) := by decide +kernel
theorem d_X_subscribe_50 : decode b_X_subscribe 50 = .ok (.iconst 1, 1) := by decide +kernel
theorem d_X_subscribe_51 : decode b_X_subscribe 51 = .ok (.goto 4, 3) := by decide +kernel
theorem d_X_subscribe_54 : decode b_X_subscribe 54 = .ok (.iconst 0, 1) := by decide +kernel
theorem d_X_subscribe_55 : decode b_X_subscribe 55 = .ok (.invokestatic 55, 3) := by decide +kernel
theorem d_X_subscribe_58 : decode b_X_subscribe 58 = .ok (.aload 4, 2) := by decide +kernel
theorem d_X_subscribe_60 : decode b_X_subscribe 60 = .ok (.getfield 71, 3) := by decide +kernel
theorem d_X_subscribe_63 : decode b_X_subscribe 63 = .ok (.iconst 4, 1) := by decide +kernel
theorem d_X_subscribe_64 : decode b_X_subscribe 64 = .ok (.if_icmp .ne 7, 3) := by decide +kernel
theorem d_X_subscribe_67 : decode b_X_subscribe 67 = .ok (.iconst 1, 1) := by decide +kernel
theorem d_X_subscribe_68 : decode b_X_subscribe 68 = .ok (.goto 4, 3) := by decide +kernel
theorem d_X_subscribe_71 : decode b_X_subscribe 71 = .ok (.iconst 0, 1) := by decide +kernel
theorem d_X_subscribe_72 : decode b_X_subscribe 72 = .ok (.invokestatic 62, 3) := by decide +kernel
theorem d_X_subscribe_75 : decode b_X_subscribe 75 = .ok (.aload_n 0, 1) := by decide +kernel
theorem d_X_subscribe_76 : decode b_X_subscribe 76 = .ok (.getfield 16, 3) := by decide +kernel
theorem d_X_subscribe_79 : decode b_X_subscribe 79 = .ok (.aload 4, 2) := by decide +kernel
theorem d_X_subscribe_81 : decode b_X_subscribe 81 = .ok (.getfield 80, 3) := by decide +kernel
theorem d_X_subscribe_84 : decode b_X_subscribe 84 = .ok (.aaload, 1) := by decide +kernel
theorem d_X_subscribe_85 : decode b_X_subscribe 85 = .ok (.astore 5, 2) := by decide +kernel
theorem d_X_subscribe_87 : decode b_X_subscribe 87 = .ok (.iload_n 3, 1) := by decide +kernel
theorem d_X_subscribe_88 : decode b_X_subscribe 88 = .ok (.iconst 5, 1) := by decide +kernel
theorem d_X_subscribe_89 : decode b_X_subscribe 89 = .ok (.if_icmp .ne 16, 3) := by decide +kernel
theorem d_X_subscribe_92 : decode b_X_subscribe 92 = .ok (.aload 5, 2) := by decide +kernel
theorem d_X_subscribe_94 : decode b_X_subscribe 94 = .ok (.iload_n 2, 1) := by decide +kernel
theorem d_X_subscribe_95 : decode b_X_subscribe 95 = .ok (.bipush 8, 2) := by decide +kernel
theorem d_X_subscribe_97 : decode b_X_subscribe 97 = .ok (.invokevirtual 126, 3) := by decide +kernel
theorem d_X_subscribe_100 : decode b_X_subscribe 100 = .ok (.ifCond .ne 5, 3) := by decide +kernel
theorem d_X_subscribe_103 : decode b_X_subscribe 103 = .ok (.iconst 0, 1) := by decide +kernel
theorem d_X_subscribe_104 : decode b_X_subscribe 104 = .ok (.ireturn, 1) := by decide +kernel
theorem d_X_subscribe_105 : decode b_X_subscribe 105 = .ok (.iload_n 3, 1) := by decide +kernel
theorem d_X_subscribe_106 : decode b_X_subscribe 106 = .ok (.bipush 7, 2) := by decide +kernel
theorem d_X_subscribe_108 : decode b_X_subscribe 108 = .ok (.if_icmp .ne 24, 3) := by decide +kernel
theorem d_X_subscribe_111 : decode b_X_subscribe 111 = .ok (.aload 5, 2) := by decide +kernel
theorem d_X_subscribe_113 : decode b_X_subscribe 113 = .ok (.iload_n 2, 1) := by decide +kernel
theorem d_X_subscribe_114 : decode b_X_subscribe 114 = .ok (.iconst 2, 1) := by decide +kernel
theorem d_X_subscribe_115 : decode b_X_subscribe 115 = .ok (.invokevirtual 126, 3) := by decide +kernel
theorem d_X_subscribe_118 : decode b_X_subscribe 118 = .ok (.ifCond .eq 14, 3) := by decide +kernel
theorem d_X_subscribe_121 : decode b_X_subscribe 121 = .ok (.aload_n 0, 1) := by decide +kernel
theorem d_X_subscribe_122 : decode b_X_subscribe 122 = .ok (.aload 4, 2) := by decide +kernel
theorem d_X_subscribe_124 : decode b_X_subscribe 124 = .ok (.getfield 80, 3) := by decide +kernel
theorem d_X_subscribe_127 : decode b_X_subscribe 127 = .ok (.iload_n 2, 1) := by decide +kernel
theorem d_X_subscribe_128 : decode b_X_subscribe 128 = .ok (.iconst 3, 1) := by decide +kernel
theorem d_X_subscribe_129 : decode b_X_subscribe 129 = .ok (.invokevirtual 130, 3) := by decide +kernel
theorem d_X_subscribe_132 : decode b_X_subscribe 132 = .ok (.aload 5, 2) := by decide +kernel
theorem d_X_subscribe_134 : decode b_X_subscribe 134 = .ok (.iload_n 2, 1) := by decide +kernel
theorem d_X_subscribe_135 : decode b_X_subscribe 135 = .ok (.iload_n 3, 1) := by decide +kernel
theorem d_X_subscribe_136 : decode b_X_subscribe 136 = .ok (.invokestatic 134, 3) := by decide +kernel
theorem d_X_subscribe_139 : decode b_X_subscribe 139 = .ok (.aload_n 0, 1) := by decide +kernel
theorem d_X_subscribe_140 : decode b_X_subscribe 140 = .ok (.new 7, 3) := by decide +kernel
theorem d_X_subscribe_143 : decode b_X_subscribe 143 = .ok (.dup, 1) := by decide +kernel
theorem d_X_subscribe_144 : decode b_X_subscribe 144 = .ok (.iload_n 3, 1) := by decide +kernel
theorem d_X_subscribe_145 : decode b_X_subscribe 145 = .ok (.aload 4, 2) := by decide +kernel
theorem d_X_subscribe_147 : decode b_X_subscribe 147 = .ok (.getfield 80, 3) := by decide +kernel
theorem d_X_subscribe_150 : decode b_X_subscribe 150 = .ok (.iconst (-1), 1) := by decide +kernel
theorem d_X_subscribe_151 : decode b_X_subscribe 151 = .ok (.iconst 0, 1) := by decide +kernel
theorem d_X_subscribe_152 : decode b_X_subscribe 152 = .ok (.iload_n 2, 1) := by decide +kernel
theorem d_X_subscribe_153 : decode b_X_subscribe 153 = .ok (.iconst (-1), 1) := by decide +kernel
theorem d_X_subscribe_154 : decode b_X_subscribe 154 = .ok (.invokespecial 11, 3) := by decide +kernel
theorem d_X_subscribe_157 : decode b_X_subscribe 157 = .ok (.invokevirtual 123, 3) := by decide +kernel
theorem d_X_subscribe_160 : decode b_X_subscribe 160 = .ok (.iload_n 3, 1) := by decide +kernel
theorem d_X_subscribe_161 : decode b_X_subscribe 161 = .ok (.iconst 5, 1) := by decide +kernel
theorem d_X_subscribe_162 : decode b_X_subscribe 162 = .ok (.if_icmp .ne 14, 3) := by decide +kernel
theorem d_X_subscribe_165 : decode b_X_subscribe 165 = .ok (.aload_n 0, 1) := by decide +kernel
theorem d_X_subscribe_166 : decode b_X_subscribe 166 = .ok (.aload 4, 2) := by decide +kernel
theorem d_X_subscribe_168 : decode b_X_subscribe 168 = .ok (.getfield 80, 3) := by decide +kernel
theorem d_X_subscribe_171 : decode b_X_subscribe 171 = .ok (.iload_n 2, 1) := by decide +kernel
theorem d_X_subscribe_172 : decode b_X_subscribe 172 = .ok (.iconst 2, 1) := by decide +kernel
theorem d_X_subscribe_173 : decode b_X_subscribe 173 = .ok (.invokevirtual 130, 3) := by decide +kernel
theorem d_X_subscribe_176 : decode b_X_subscribe 176 = .ok (.iconst 1, 1) := by decide +kernel
theorem d_X_subscribe_177 : decode b_X_subscribe 177 = .ok (.ireturn, 1) := by decide +kernel
theorem d_X_link_0 : decode b_X_link 0 = .ok (.aload_n 0, 1) := by decide +kernel
theorem d_X_link_1 : decode b_X_link 1 = .ok (.iload_n 1, 1) := by decide +kernel
theorem d_X_link_2 : decode b_X_link 2 = .ok (.putfield 39, 3) := by decide +kernel
theorem d_X_link_5 : decode b_X_link 5 = .ok (.iload_n 1, 1) := by decide +kernel
theorem d_X_link_6 : decode b_X_link 6 = .ok (.ifCond .ne 5, 3) := by decide +kernel
theorem d_X_link_9 : decode b_X_link 9 = .ok (.iconst 0, 1) := by decide +kernel
theorem d_X_link_10 : decode b_X_link 10 = .ok (.ireturn, 1) := by decide +kernel
theorem d_X_link_11 : decode b_X_link 11 = .ok (.aload_n 0, 1) := by decide +kernel
theorem d_X_link_12 : decode b_X_link 12 = .ok (.getfield 35, 3) := by decide +kernel
theorem d_X_link_15 : decode b_X_link 15 = .ok (.getfield 120, 3) := by decide +kernel
theorem d_X_link_18 : decode b_X_link 18 = .ok (.istore_n 2, 1) := by decide +kernel
theorem d_X_link_19 : decode b_X_link 19 = .ok (.iconst 0, 1) := by decide +kernel
theorem d_X_link_20 : decode b_X_link 20 = .ok (.istore_n 3, 1) := by decide +kernel
theorem d_X_link_21 : decode b_X_link 21 = .ok (.iload_n 3, 1) := by decide +kernel
theorem d_X_link_22 : decode b_X_link 22 = .ok (.iload_n 2, 1) := by decide +kernel
theorem d_X_link_23 : decode b_X_link 23 = .ok (.if_icmp .ge 20, 3) := by decide +kernel
theorem d_X_link_26 : decode b_X_link 26 = .ok (.aload_n 0, 1) := by decide +kernel
theorem d_X_link_27 : decode b_X_link 27 = .ok (.aload_n 0, 1) := by decide +kernel
theorem d_X_link_28 : decode b_X_link 28 = .ok (.getfield 35, 3) := by decide +kernel
theorem d_X_link_31 : decode b_X_link 31 = .ok (.invokevirtual 138, 3) := by decide +kernel
theorem d_X_link_34 : decode b_X_link 34 = .ok (.invokevirtual 142, 3) := by decide +kernel
theorem d_X_link_37 : decode b_X_link 37 = .ok (.iinc 3 1, 3) := by decide +kernel
theorem d_X_link_40 : decode b_X_link 40 = .ok (.goto (-19), 3) := by decide +kernel
theorem d_X_link_43 : decode b_X_link 43 = .ok (.iload_n 2, 1) := by decide +kernel
theorem d_X_link_44 : decode b_X_link 44 = .ok (.ireturn, 1) := by decide +kernel
theorem d_X_take_0 : decode b_X_take 0 = .ok (.iload_n 1, 1) := by decide +kernel
theorem d_X_take_1 : decode b_X_take 1 = .ok (.invokestatic 68, 3) := by decide +kernel
theorem d_X_take_4 : decode b_X_take 4 = .ok (.invokestatic 55, 3) := by decide +kernel
theorem d_X_take_7 : decode b_X_take 7 = .ok (.aload_n 0, 1) := by decide +kernel
theorem d_X_take_8 : decode b_X_take 8 = .ok (.getfield 25, 3) := by decide +kernel
theorem d_X_take_11 : decode b_X_take 11 = .ok (.iload_n 1, 1) := by decide +kernel
theorem d_X_take_12 : decode b_X_take 12 = .ok (.aaload, 1) := by decide +kernel
theorem d_X_take_13 : decode b_X_take 13 = .ok (.getfield 74, 3) := by decide +kernel
theorem d_X_take_16 : decode b_X_take 16 = .ok (.astore_n 2, 1) := by decide +kernel
theorem d_X_take_17 : decode b_X_take 17 = .ok (.aload_n 2, 1) := by decide +kernel
theorem d_X_take_18 : decode b_X_take 18 = .ok (.getfield 120, 3) := by decide +kernel
theorem d_X_take_21 : decode b_X_take 21 = .ok (.ifCond .ne 11, 3) := by decide +kernel
theorem d_X_take_24 : decode b_X_take 24 = .ok (.new 145, 3) := by decide +kernel
theorem d_X_take_27 : decode b_X_take 27 = .ok (.dup, 1) := by decide +kernel
theorem d_X_take_28 : decode b_X_take 28 = .ok (.invokespecial 147, 3) := by decide +kernel
theorem d_X_take_31 : decode b_X_take 31 = .ok (.athrow, 1) := by decide +kernel
theorem d_X_take_32 : decode b_X_take 32 = .ok (.aload_n 2, 1) := by decide +kernel
theorem d_X_take_33 : decode b_X_take 33 = .ok (.invokevirtual 138, 3) := by decide +kernel
theorem d_X_take_36 : decode b_X_take 36 = .ok (.astore_n 3, 1) := by decide +kernel
theorem d_X_take_37 : decode b_X_take 37 = .ok (.aload_n 0, 1) := by decide +kernel
theorem d_X_take_38 : decode b_X_take 38 = .ok (.aload_n 3, 1) := by decide +kernel
theorem d_X_take_39 : decode b_X_take 39 = .ok (.putfield 47, 3) := by decide +kernel
theorem d_X_take_42 : decode b_X_take 42 = .ok (.aload_n 3, 1) := by decide +kernel
theorem d_X_take_43 : decode b_X_take 43 = .ok (.getfield 148, 3) := by decide +kernel
theorem d_X_take_46 : decode b_X_take 46 = .ok (.ireturn, 1) := by decide +kernel
theorem d_X_taken_0 : decode b_X_taken 0 = .ok (.aload_n 0, 1) := by decide +kernel
theorem d_X_taken_1 : decode b_X_taken 1 = .ok (.getfield 47, 3) := by decide +kernel
theorem d_X_taken_4 : decode b_X_taken 4 = .ok (.astore_n 2, 1) := by decide +kernel
theorem d_X_taken_5 : decode b_X_taken 5 = .ok (.aload_n 2, 1) := by decide +kernel
theorem d_X_taken_6 : decode b_X_taken 6 = .ok (.ifnonnull 11, 3) := by decide +kernel
theorem d_X_taken_9 : decode b_X_taken 9 = .ok (.new 145, 3) := by decide +kernel
theorem d_X_taken_12 : decode b_X_taken 12 = .ok (.dup, 1) := by decide +kernel
theorem d_X_taken_13 : decode b_X_taken 13 = .ok (.invokespecial 147, 3) := by decide +kernel
theorem d_X_taken_16 : decode b_X_taken 16 = .ok (.athrow, 1) := by decide +kernel
theorem d_X_taken_17 : decode b_X_taken 17 = .ok (.iload_n 1, 1) := by decide +kernel
theorem d_X_taken_18 : decode b_X_taken 18 = .ok (.tableswitch 41 0 2 #[26, 31, 36], 26) := by decide +kernel
theorem d_X_taken_44 : decode b_X_taken 44 = .ok (.aload_n 2, 1) := by decide +kernel
theorem d_X_taken_45 : decode b_X_taken 45 = .ok (.getfield 151, 3) := by decide +kernel
theorem d_X_taken_48 : decode b_X_taken 48 = .ok (.ireturn, 1) := by decide +kernel
theorem d_X_taken_49 : decode b_X_taken 49 = .ok (.aload_n 2, 1) := by decide +kernel
theorem d_X_taken_50 : decode b_X_taken 50 = .ok (.getfield 154, 3) := by decide +kernel
