theorem d_X_taken_53 : decode b_X_taken 53 = .ok (.ireturn, 1) := by decide +kernel
theorem d_X_taken_54 : decode b_X_taken 54 = .ok (.aload_n 2, 1) := by decide +kernel
theorem d_X_taken_55 : decode b_X_taken 55 = .ok (.getfield 155, 3) := by decide +kernel
theorem d_X_taken_58 : decode b_X_taken 58 = .ok (.ireturn, 1) := by decide +kernel
theorem d_X_taken_59 : decode b_X_taken 59 = .ok (.new 158, 3) := by decide +kernel
theorem d_X_taken_62 : decode b_X_taken 62 = .ok (.dup, 1) := by decide +kernel
theorem d_X_taken_63 : decode b_X_taken 63 = .ok (.invokespecial 160, 3) := by decide +kernel
theorem d_X_taken_66 : decode b_X_taken 66 = .ok (.athrow, 1) := by decide +kernel
theorem d_X_roster_0 : decode b_X_roster 0 = .ok (.iload_n 1, 1) := by decide +kernel
theorem d_X_roster_1 : decode b_X_roster 1 = .ok (.invokestatic 51, 3) := by decide +kernel
theorem d_X_roster_4 : decode b_X_roster 4 = .ok (.ifCond .eq 14, 3) := by decide +kernel
theorem d_X_roster_7 : decode b_X_roster 7 = .ok (.iload_n 2, 1) := by decide +kernel
theorem d_X_roster_8 : decode b_X_roster 8 = .ok (.invokestatic 51, 3) := by decide +kernel
theorem d_X_roster_11 : decode b_X_roster 11 = .ok (.ifCond .eq 7, 3) := by decide +kernel
theorem d_X_roster_14 : decode b_X_roster 14 = .ok (.iconst 1, 1) := by decide +kernel
theorem d_X_roster_15 : decode b_X_roster 15 = .ok (.goto 4, 3) := by decide +kernel
theorem d_X_roster_18 : decode b_X_roster 18 = .ok (.iconst 0, 1) := by decide +kernel
theorem d_X_roster_19 : decode b_X_roster 19 = .ok (.invokestatic 55, 3) := by decide +kernel
theorem d_X_roster_22 : decode b_X_roster 22 = .ok (.aload_n 0, 1) := by decide +kernel
theorem d_X_roster_23 : decode b_X_roster 23 = .ok (.getfield 16, 3) := by decide +kernel
theorem d_X_roster_26 : decode b_X_roster 26 = .ok (.iload_n 1, 1) := by decide +kernel
theorem d_X_roster_27 : decode b_X_roster 27 = .ok (.aaload, 1) := by decide +kernel
theorem d_X_roster_28 : decode b_X_roster 28 = .ok (.getfield 161, 3) := by decide +kernel
theorem d_X_roster_31 : decode b_X_roster 31 = .ok (.iload_n 2, 1) := by decide +kernel
theorem d_X_roster_32 : decode b_X_roster 32 = .ok (.iaload, 1) := by decide +kernel
theorem d_X_roster_33 : decode b_X_roster 33 = .ok (.ireturn, 1) := by decide +kernel
theorem d_X_connection_0 : decode b_X_connection 0 = .ok (.iload_n 1, 1) := by decide +kernel
theorem d_X_connection_1 : decode b_X_connection 1 = .ok (.invokestatic 68, 3) := by decide +kernel
theorem d_X_connection_4 : decode b_X_connection 4 = .ok (.invokestatic 55, 3) := by decide +kernel
theorem d_X_connection_7 : decode b_X_connection 7 = .ok (.aload_n 0, 1) := by decide +kernel
theorem d_X_connection_8 : decode b_X_connection 8 = .ok (.getfield 25, 3) := by decide +kernel
theorem d_X_connection_11 : decode b_X_connection 11 = .ok (.iload_n 1, 1) := by decide +kernel
theorem d_X_connection_12 : decode b_X_connection 12 = .ok (.aaload, 1) := by decide +kernel
theorem d_X_connection_13 : decode b_X_connection 13 = .ok (.astore_n 3, 1) := by decide +kernel
theorem d_X_connection_14 : decode b_X_connection 14 = .ok (.iload_n 2, 1) := by decide +kernel
theorem d_X_connection_15 : decode b_X_connection 15 = .ok (.tableswitch 69 0 4 #[33, 38, 43, 48, 61], 33) := by decide +kernel
theorem d_X_connection_48 : decode b_X_connection 48 = .ok (.aload_n 3, 1) := by decide +kernel
theorem d_X_connection_49 : decode b_X_connection 49 = .ok (.getfield 71, 3) := by decide +kernel
theorem d_X_connection_52 : decode b_X_connection 52 = .ok (.ireturn, 1) := by decide +kernel
theorem d_X_connection_53 : decode b_X_connection 53 = .ok (.aload_n 3, 1) := by decide +kernel
theorem d_X_connection_54 : decode b_X_connection 54 = .ok (.getfield 80, 3) := by decide +kernel
theorem d_X_connection_57 : decode b_X_connection 57 = .ok (.ireturn, 1) := by decide +kernel
theorem d_X_connection_58 : decode b_X_connection 58 = .ok (.aload_n 3, 1) := by decide +kernel
theorem d_X_connection_59 : decode b_X_connection 59 = .ok (.getfield 101, 3) := by decide +kernel
theorem d_X_connection_62 : decode b_X_connection 62 = .ok (.ireturn, 1) := by decide +kernel
theorem d_X_connection_63 : decode b_X_connection 63 = .ok (.aload_n 3, 1) := by decide +kernel
theorem d_X_connection_64 : decode b_X_connection 64 = .ok (.getfield 104, 3) := by decide +kernel
theorem d_X_connection_67 : decode b_X_connection 67 = .ok (.ifCond .eq 7, 3) := by decide +kernel
theorem d_X_connection_70 : decode b_X_connection 70 = .ok (.iconst 1, 1) := by decide +kernel
theorem d_X_connection_71 : decode b_X_connection 71 = .ok (.goto 4, 3) := by decide +kernel
theorem d_X_connection_74 : decode b_X_connection 74 = .ok (.iconst 0, 1) := by decide +kernel
theorem d_X_connection_75 : decode b_X_connection 75 = .ok (.ireturn, 1) := by decide +kernel
theorem d_X_connection_76 : decode b_X_connection 76 = .ok (.aload_n 3, 1) := by decide +kernel
theorem d_X_connection_77 : decode b_X_connection 77 = .ok (.getfield 74, 3) := by decide +kernel
theorem d_X_connection_80 : decode b_X_connection 80 = .ok (.getfield 120, 3) := by decide +kernel
theorem d_X_connection_83 : decode b_X_connection 83 = .ok (.ireturn, 1) := by decide +kernel
theorem d_X_connection_84 : decode b_X_connection 84 = .ok (.new 158, 3) := by decide +kernel
theorem d_X_connection_87 : decode b_X_connection 87 = .ok (.dup, 1) := by decide +kernel
theorem d_X_connection_88 : decode b_X_connection 88 = .ok (.invokespecial 160, 3) := by decide +kernel
theorem d_X_connection_91 : decode b_X_connection 91 = .ok (.athrow, 1) := by decide +kernel
theorem d_X_count_0 : decode b_X_count 0 = .ok (.iload_n 1, 1) := by decide +kernel
theorem d_X_count_1 : decode b_X_count 1 = .ok (.tableswitch 62 0 3 #[31, 36, 44, 49], 31) := by decide +kernel
theorem d_X_count_32 : decode b_X_count 32 = .ok (.aload_n 0, 1) := by decide +kernel
theorem d_X_count_33 : decode b_X_count 33 = .ok (.invokevirtual 165, 3) := by decide +kernel
theorem d_X_count_36 : decode b_X_count 36 = .ok (.ireturn, 1) := by decide +kernel
theorem d_X_count_37 : decode b_X_count 37 = .ok (.aload_n 0, 1) := by decide +kernel
theorem d_X_count_38 : decode b_X_count 38 = .ok (.getfield 35, 3) := by decide +kernel
theorem d_X_count_41 : decode b_X_count 41 = .ok (.getfield 120, 3) := by decide +kernel
theorem d_X_count_44 : decode b_X_count 44 = .ok (.ireturn, 1) := by decide +kernel
theorem d_X_count_45 : decode b_X_count 45 = .ok (.aload_n 0, 1) := by decide +kernel
theorem d_X_count_46 : decode b_X_count 46 = .ok (.invokevirtual 169, 3) := by decide +kernel
theorem d_X_count_49 : decode b_X_count 49 = .ok (.ireturn, 1) := by decide +kernel
theorem d_X_count_50 : decode b_X_count 50 = .ok (.aload_n 0, 1) := by decide +kernel
theorem d_X_count_51 : decode b_X_count 51 = .ok (.getfield 39, 3) := by decide +kernel
theorem d_X_count_54 : decode b_X_count 54 = .ok (.ifCond .eq 7, 3) := by decide +kernel
theorem d_X_count_57 : decode b_X_count 57 = .ok (.iconst 1, 1) := by decide +kernel
theorem d_X_count_58 : decode b_X_count 58 = .ok (.goto 4, 3) := by decide +kernel
theorem d_X_count_61 : decode b_X_count 61 = .ok (.iconst 0, 1) := by decide +kernel
theorem d_X_count_62 : decode b_X_count 62 = .ok (.ireturn, 1) := by decide +kernel
theorem d_X_count_63 : decode b_X_count 63 = .ok (.iload_n 1, 1) := by decide +kernel
theorem d_X_count_64 : decode b_X_count 64 = .ok (.iconst 4, 1) := by decide +kernel
theorem d_X_count_65 : decode b_X_count 65 = .ok (.if_icmp .lt 13, 3) := by decide +kernel
theorem d_X_count_68 : decode b_X_count 68 = .ok (.iload_n 1, 1) := by decide +kernel
theorem d_X_count_69 : decode b_X_count 69 = .ok (.bipush 12, 2) := by decide +kernel
theorem d_X_count_71 : decode b_X_count 71 = .ok (.if_icmp .ge 7, 3) := by decide +kernel
theorem d_X_count_74 : decode b_X_count 74 = .ok (.iconst 1, 1) := by decide +kernel
theorem d_X_count_75 : decode b_X_count 75 = .ok (.goto 4, 3) := by decide +kernel
theorem d_X_count_78 : decode b_X_count 78 = .ok (.iconst 0, 1) := by decide +kernel
theorem d_X_count_79 : decode b_X_count 79 = .ok (.invokestatic 55, 3) := by decide +kernel
theorem d_X_count_82 : decode b_X_count 82 = .ok (.aload_n 0, 1) := by decide +kernel
theorem d_X_count_83 : decode b_X_count 83 = .ok (.getfield 16, 3) := by decide +kernel
theorem d_X_count_86 : decode b_X_count 86 = .ok (.iload_n 1, 1) := by decide +kernel
theorem d_X_count_87 : decode b_X_count 87 = .ok (.iconst 4, 1) := by decide +kernel
theorem d_X_count_88 : decode b_X_count 88 = .ok (.isub, 1) := by decide +kernel
theorem d_X_count_89 : decode b_X_count 89 = .ok (.aaload, 1) := by decide +kernel
theorem d_X_count_90 : decode b_X_count 90 = .ok (.getfield 172, 3) := by decide +kernel
theorem d_X_count_93 : decode b_X_count 93 = .ok (.getfield 120, 3) := by decide +kernel
theorem d_X_count_96 : decode b_X_count 96 = .ok (.ireturn, 1) := by decide +kernel
theorem d_X_checkArgument_0 : decode b_X_checkArgument 0 = .ok (.iload_n 0, 1) := by decide +kernel
theorem d_X_checkArgument_1 : decode b_X_checkArgument 1 = .ok (.ifCond .ne 11, 3) := by decide +kernel
theorem d_X_checkArgument_4 : decode b_X_checkArgument 4 = .ok (.new 158, 3) := by decide +kernel
theorem d_X_checkArgument_7 : decode b_X_checkArgument 7 = .ok (.dup, 1) := by decide +kernel
theorem d_X_checkArgument_8 : decode b_X_checkArgument 8 = .ok (.invokespecial 160, 3) := by decide +kernel
theorem d_X_checkArgument_11 : decode b_X_checkArgument 11 = .ok (.athrow, 1) := by decide +kernel
theorem d_X_checkArgument_12 : decode b_X_checkArgument 12 = .ok (.return_, 1) := by decide +kernel
theorem d_X_checkState_0 : decode b_X_checkState 0 = .ok (.iload_n 0, 1) := by decide +kernel
theorem d_X_checkState_1 : decode b_X_checkState 1 = .ok (.ifCond .ne 11, 3) := by decide +kernel
theorem d_X_checkState_4 : decode b_X_checkState 4 = .ok (.new 175, 3) := by decide +kernel
theorem d_X_checkState_7 : decode b_X_checkState 7 = .ok (.dup, 1) := by decide +kernel
theorem d_X_checkState_8 : decode b_X_checkState 8 = .ok (.invokespecial 177, 3) := by decide +kernel
theorem d_X_checkState_11 : decode b_X_checkState 11 = .ok (.athrow, 1) := by decide +kernel
theorem d_X_checkState_12 : decode b_X_checkState 12 = .ok (.return_, 1) := by decide +kernel
theorem d_X_isAccount_0 : decode b_X_isAccount 0 = .ok (.iload_n 0, 1) := by decide +kernel
theorem d_X_isAccount_1 : decode b_X_isAccount 1 = .ok (.ifCond .lt 13, 3) := by decide +kernel
theorem d_X_isAccount_4 : decode b_X_isAccount 4 = .ok (.iload_n 0, 1) := by decide +kernel
theorem d_X_isAccount_5 : decode b_X_isAccount 5 = .ok (.bipush 8, 2) := by decide +kernel
theorem d_X_isAccount_7 : decode b_X_isAccount 7 = .ok (.if_icmp .ge 7, 3) := by decide +kernel
theorem d_X_isAccount_10 : decode b_X_isAccount 10 = .ok (.iconst 1, 1) := by decide +kernel
theorem d_X_isAccount_11 : decode b_X_isAccount 11 = .ok (.goto 4, 3) := by decide +kernel
theorem d_X_isAccount_14 : decode b_X_isAccount 14 = .ok (.iconst 0, 1) := by decide +kernel
theorem d_X_isAccount_15 : decode b_X_isAccount 15 = .ok (.ireturn, 1) := by decide +kernel
theorem d_X_isConnection_0 : decode b_X_isConnection 0 = .ok (.iload_n 0, 1) := by decide +kernel
theorem d_X_isConnection_1 : decode b_X_isConnection 1 = .ok (.ifCond .lt 13, 3) := by decide +kernel
theorem d_X_isConnection_4 : decode b_X_isConnection 4 = .ok (.iload_n 0, 1) := by decide +kernel
theorem d_X_isConnection_5 : decode b_X_isConnection 5 = .ok (.bipush 6, 2) := by decide +kernel
theorem d_X_isConnection_7 : decode b_X_isConnection 7 = .ok (.if_icmp .ge 7, 3) := by decide +kernel
theorem d_X_isConnection_10 : decode b_X_isConnection 10 = .ok (.iconst 1, 1) := by decide +kernel
theorem d_X_isConnection_11 : decode b_X_isConnection 11 = .ok (.goto 4, 3) := by decide +kernel
theorem d_X_isConnection_14 : decode b_X_isConnection 14 = .ok (.iconst 0, 1) := by decide +kernel
theorem d_X_isConnection_15 : decode b_X_isConnection 15 = .ok (.ireturn, 1) := by decide +kernel
theorem d_X_onOneServer_0 : decode b_X_onOneServer 0 = .ok (.iload_n 0, 1) := by decide +kernel
theorem d_X_onOneServer_1 : decode b_X_onOneServer 1 = .ok (.iconst 4, 1) := by decide +kernel
theorem d_X_onOneServer_2 : decode b_X_onOneServer 2 = .ok (.if_icmp .ge 7, 3) := by decide +kernel
theorem d_X_onOneServer_5 : decode b_X_onOneServer 5 = .ok (.iconst 1, 1) := by decide +kernel
theorem d_X_onOneServer_6 : decode b_X_onOneServer 6 = .ok (.goto 4, 3) := by decide +kernel
theorem d_X_onOneServer_9 : decode b_X_onOneServer 9 = .ok (.iconst 0, 1) := by decide +kernel
theorem d_X_onOneServer_10 : decode b_X_onOneServer 10 = .ok (.iload_n 1, 1) := by decide +kernel
theorem d_X_onOneServer_11 : decode b_X_onOneServer 11 = .ok (.iconst 4, 1) := by decide +kernel
theorem d_X_onOneServer_12 : decode b_X_onOneServer 12 = .ok (.if_icmp .ge 7, 3) := by decide +kernel
theorem d_X_onOneServer_15 : decode b_X_onOneServer 15 = .ok (.iconst 1, 1) := by decide +kernel
theorem d_X_onOneServer_16 : decode b_X_onOneServer 16 = .ok (.goto 4, 3) := by decide +kernel
theorem d_X_onOneServer_19 : decode b_X_onOneServer 19 = .ok (.iconst 0, 1) := by decide +kernel
theorem d_X_onOneServer_20 : decode b_X_onOneServer 20 = .ok (.if_icmp .ne 7, 3) := by decide +kernel
theorem d_X_onOneServer_23 : decode b_X_onOneServer 23 = .ok (.iconst 1, 1) := by decide +kernel
theorem d_X_onOneServer_24 : decode b_X_onOneServer 24 = .ok (.goto 4, 3) := by decide +kernel
theorem d_X_onOneServer_27 : decode b_X_onOneServer 27 = .ok (.iconst 0, 1) := by decide +kernel
theorem d_X_onOneServer_28 : decode b_X_onOneServer 28 = .ok (.ireturn, 1) := by decide +kernel
theorem d_X_canReach_0 : decode b_X_canReach 0 = .ok (.aload_n 0, 1) := by decide +kernel
theorem d_X_canReach_1 : decode b_X_canReach 1 = .ok (.getfield 39, 3) := by decide +kernel
theorem d_X_canReach_4 : decode b_X_canReach 4 = .ok (.ifCond .ne 11, 3) := by decide +kernel
theorem d_X_canReach_7 : decode b_X_canReach 7 = .ok (.iload_n 1, 1) := by decide +kernel
theorem d_X_canReach_8 : decode b_X_canReach 8 = .ok (.iload_n 2, 1) := by decide +kernel
theorem d_X_canReach_9 : decode b_X_canReach 9 = .ok (.invokestatic 178, 3) := by decide +kernel
theorem d_X_canReach_12 : decode b_X_canReach 12 = .ok (.ifCond .eq 7, 3) := by decide +kernel
theorem d_X_canReach_15 : decode b_X_canReach 15 = .ok (.iconst 1, 1) := by decide +kernel
theorem d_X_canReach_16 : decode b_X_canReach 16 = .ok (.goto 4, 3) := by decide +kernel
theorem d_X_canReach_19 : decode b_X_canReach 19 = .ok (.iconst 0, 1) := by decide +kernel
theorem d_X_canReach_20 : decode b_X_canReach 20 = .ok (.ireturn, 1) := by decide +kernel
theorem d_X_isRightProof_0 : decode b_X_isRightProof 0 = .ok (.aload_n 0, 1) := by decide +kernel
theorem d_X_isRightProof_1 : decode b_X_isRightProof 1 = .ok (.getfield 16, 3) := by decide +kernel
theorem d_X_isRightProof_4 : decode b_X_isRightProof 4 = .ok (.aload_n 1, 1) := by decide +kernel
theorem d_X_isRightProof_5 : decode b_X_isRightProof 5 = .ok (.getfield 80, 3) := by decide +kernel
theorem d_X_isRightProof_8 : decode b_X_isRightProof 8 = .ok (.aaload, 1) := by decide +kernel
theorem d_X_isRightProof_9 : decode b_X_isRightProof 9 = .ok (.astore_n 3, 1) := by decide +kernel
theorem d_X_isRightProof_10 : decode b_X_isRightProof 10 = .ok (.aload_n 3, 1) := by decide +kernel
theorem d_X_isRightProof_11 : decode b_X_isRightProof 11 = .ok (.getfield 59, 3) := by decide +kernel
theorem d_X_isRightProof_14 : decode b_X_isRightProof 14 = .ok (.ifCond .eq 27, 3) := by decide +kernel
theorem d_X_isRightProof_17 : decode b_X_isRightProof 17 = .ok (.iload_n 2, 1) := by decide +kernel
theorem d_X_isRightProof_18 : decode b_X_isRightProof 18 = .ok (.aload_n 3, 1) := by decide +kernel
theorem d_X_isRightProof_19 : decode b_X_isRightProof 19 = .ok (.getfield 65, 3) := by decide +kernel
theorem d_X_isRightProof_22 : decode b_X_isRightProof 22 = .ok (.bipush 31, 2) := by decide +kernel
theorem d_X_isRightProof_24 : decode b_X_isRightProof 24 = .ok (.imul, 1) := by decide +kernel
theorem d_X_isRightProof_25 : decode b_X_isRightProof 25 = .ok (.aload_n 1, 1) := by decide +kernel
theorem d_X_isRightProof_26 : decode b_X_isRightProof 26 = .ok (.getfield 83, 3) := by decide +kernel
theorem d_X_isRightProof_29 : decode b_X_isRightProof 29 = .ok (.iadd, 1) := by decide +kernel
theorem d_X_isRightProof_30 : decode b_X_isRightProof 30 = .ok (.sipush 10007, 3) := by decide +kernel
theorem d_X_isRightProof_33 : decode b_X_isRightProof 33 = .ok (.irem, 1) := by decide +kernel
theorem d_X_isRightProof_34 : decode b_X_isRightProof 34 = .ok (.if_icmp .ne 7, 3) := by decide +kernel
theorem d_X_isRightProof_37 : decode b_X_isRightProof 37 = .ok (.iconst 1, 1) := by decide +kernel
theorem d_X_isRightProof_38 : decode b_X_isRightProof 38 = .ok (.goto 4, 3) := by decide +kernel
theorem d_X_isRightProof_41 : decode b_X_isRightProof 41 = .ok (.iconst 0, 1) := by decide +kernel
theorem d_X_isRightProof_42 : decode b_X_isRightProof 42 = .ok (.ireturn, 1) := by decide +kernel
theorem d_X_boundWith_0 : decode b_X_boundWith 0 = .ok (.aload_n 0, 1) := by decide +kernel
theorem d_X_boundWith_1 : decode b_X_boundWith 1 = .ok (.getfield 25, 3) := by decide +kernel
theorem d_X_boundWith_4 : decode b_X_boundWith 4 = .ok (.astore_n 3, 1) := by decide +kernel
theorem d_X_boundWith_5 : decode b_X_boundWith 5 = .ok (.aload_n 3, 1) := by decide +kernel
theorem d_X_boundWith_6 : decode b_X_boundWith 6 = .ok (.arraylength, 1) := by decide +kernel
theorem d_X_boundWith_7 : decode b_X_boundWith 7 = .ok (.istore 4, 2) := by decide +kernel
theorem d_X_boundWith_9 : decode b_X_boundWith 9 = .ok (.iconst 0, 1) := by decide +kernel
theorem d_X_boundWith_10 : decode b_X_boundWith 10 = .ok (.istore 5, 2) := by decide +kernel
theorem d_X_boundWith_12 : decode b_X_boundWith 12 = .ok (.iload 5, 2) := by decide +kernel
theorem d_X_boundWith_14 : decode b_X_boundWith 14 = .ok (.iload 4, 2) := by decide +kernel
theorem d_X_boundWith_16 : decode b_X_boundWith 16 = .ok (.if_icmp .ge 45, 3) := by decide +kernel
theorem d_X_boundWith_19 : decode b_X_boundWith 19 = .ok (.aload_n 3, 1) := by decide +kernel
theorem d_X_boundWith_20 : decode b_X_boundWith 20 = .ok (.iload 5, 2) := by decide +kernel
theorem d_X_boundWith_22 : decode b_X_boundWith 22 = .ok (.aaload, 1) := by decide +kernel
theorem d_X_boundWith_23 : decode b_X_boundWith 23 = .ok (.astore 6, 2) := by decide +kernel
theorem d_X_boundWith_25 : decode b_X_boundWith 25 = .ok (.aload 6, 2) := by decide +kernel
theorem d_X_boundWith_27 : decode b_X_boundWith 27 = .ok (.getfield 71, 3) := by decide +kernel
theorem d_X_boundWith_30 : decode b_X_boundWith 30 = .ok (.iconst 4, 1) := by decide +kernel
theorem d_X_boundWith_31 : decode b_X_boundWith 31 = .ok (.if_icmp .ne 24, 3) := by decide +kernel
theorem d_X_boundWith_34 : decode b_X_boundWith 34 = .ok (.aload 6, 2) := by decide +kernel
theorem d_X_boundWith_36 : decode b_X_boundWith 36 = .ok (.getfield 80, 3) := by decide +kernel
theorem d_X_boundWith_39 : decode b_X_boundWith 39 = .ok (.iload_n 1, 1) := by decide +kernel
theorem d_X_boundWith_40 : decode b_X_boundWith 40 = .ok (.if_icmp .ne 15, 3) := by decide +kernel
theorem d_X_boundWith_43 : decode b_X_boundWith 43 = .ok (.aload 6, 2) := by decide +kernel
theorem d_X_boundWith_45 : decode b_X_boundWith 45 = .ok (.getfield 101, 3) := by decide +kernel
theorem d_X_boundWith_48 : decode b_X_boundWith 48 = .ok (.iload_n 2, 1) := by decide +kernel
theorem d_X_boundWith_49 : decode b_X_boundWith 49 = .ok (.if_icmp .ne 6, 3) := by decide +kernel
theorem d_X_boundWith_52 : decode b_X_boundWith 52 = .ok (.aload 6, 2) := by decide +kernel
theorem d_X_boundWith_54 : decode b_X_boundWith 54 = .ok (.areturn, 1) := by decide +kernel
theorem d_X_boundWith_55 : decode b_X_boundWith 55 = .ok (.iinc 5 1, 3) := by decide +kernel
theorem d_X_boundWith_58 : decode b_X_boundWith 58 = .ok (.goto (-46), 3) := by decide +kernel
theorem d_X_boundWith_61 : decode b_X_boundWith 61 = .ok (.aconst_null, 1) := by decide +kernel
theorem d_X_boundWith_62 : decode b_X_boundWith 62 = .ok (.areturn, 1) := by decide +kernel
theorem d_X_shut_0 : decode b_X_shut 0 = .ok (.aload_n 1, 1) := by decide +kernel
theorem d_X_shut_1 : decode b_X_shut 1 = .ok (.getfield 104, 3) := by decide +kernel
theorem d_X_shut_4 : decode b_X_shut 4 = .ok (.ifCond .eq 14, 3) := by decide +kernel
theorem d_X_shut_7 : decode b_X_shut 7 = .ok (.aload_n 1, 1) := by decide +kernel
theorem d_X_shut_8 : decode b_X_shut 8 = .ok (.iconst 0, 1) := by decide +kernel
theorem d_X_shut_9 : decode b_X_shut 9 = .ok (.putfield 104, 3) := by decide +kernel
theorem d_X_shut_12 : decode b_X_shut 12 = .ok (.aload_n 0, 1) := by decide +kernel
theorem d_X_shut_13 : decode b_X_shut 13 = .ok (.aload_n 1, 1) := by decide +kernel
theorem d_X_shut_14 : decode b_X_shut 14 = .ok (.iconst 3, 1) := by decide +kernel
theorem d_X_shut_15 : decode b_X_shut 15 = .ok (.invokevirtual 110, 3) := by decide +kernel
theorem d_X_shut_18 : decode b_X_shut 18 = .ok (.aload_n 1, 1) := by decide +kernel
theorem d_X_shut_19 : decode b_X_shut 19 = .ok (.iconst 0, 1) := by decide +kernel
theorem d_X_shut_20 : decode b_X_shut 20 = .ok (.putfield 71, 3) := by decide +kernel
theorem d_X_shut_23 : decode b_X_shut 23 = .ok (.aload_n 1, 1) := by decide +kernel
theorem d_X_shut_24 : decode b_X_shut 24 = .ok (.iconst (-1), 1) := by decide +kernel
theorem d_X_shut_25 : decode b_X_shut 25 = .ok (.putfield 80, 3) := by decide +kernel
theorem d_X_shut_28 : decode b_X_shut 28 = .ok (.aload_n 1, 1) := by decide +kernel
theorem d_X_shut_29 : decode b_X_shut 29 = .ok (.iconst (-1), 1) := by decide +kernel
theorem d_X_shut_30 : decode b_X_shut 30 = .ok (.putfield 101, 3) := by decide +kernel
theorem d_X_shut_33 : decode b_X_shut 33 = .ok (.return_, 1) := by decide +kernel
theorem d_X_presenceOf_0 : decode b_X_presenceOf 0 = .ok (.iload_n 1, 1) := by decide +kernel
theorem d_X_presenceOf_1 : decode b_X_presenceOf 1 = .ok (.iconst 2, 1) := by decide +kernel
theorem d_X_presenceOf_2 : decode b_X_presenceOf 2 = .ok (.if_icmp .ne 10, 3) := by decide +kernel
theorem d_X_presenceOf_5 : decode b_X_presenceOf 5 = .ok (.aload_n 0, 1) := by decide +kernel
theorem d_X_presenceOf_6 : decode b_X_presenceOf 6 = .ok (.getfield 107, 3) := by decide +kernel
theorem d_X_presenceOf_9 : decode b_X_presenceOf 9 = .ok (.goto 4, 3) := by decide +kernel
theorem d_X_presenceOf_12 : decode b_X_presenceOf 12 = .ok (.iconst 0, 1) := by decide +kernel
theorem d_X_presenceOf_13 : decode b_X_presenceOf 13 = .ok (.istore_n 3, 1) := by decide +kernel
theorem d_X_presenceOf_14 : decode b_X_presenceOf 14 = .ok (.new 7, 3) := by decide +kernel
theorem d_X_presenceOf_17 : decode b_X_presenceOf 17 = .ok (.dup, 1) := by decide +kernel
theorem d_X_presenceOf_18 : decode b_X_presenceOf 18 = .ok (.iload_n 1, 1) := by decide +kernel
theorem d_X_presenceOf_19 : decode b_X_presenceOf 19 = .ok (.aload_n 0, 1) := by decide +kernel
theorem d_X_presenceOf_20 : decode b_X_presenceOf 20 = .ok (.getfield 80, 3) := by decide +kernel
theorem d_X_presenceOf_23 : decode b_X_presenceOf 23 = .ok (.aload_n 0, 1) := by decide +kernel
theorem d_X_presenceOf_24 : decode b_X_presenceOf 24 = .ok (.getfield 101, 3) := by decide +kernel
theorem d_X_presenceOf_27 : decode b_X_presenceOf 27 = .ok (.iload_n 3, 1) := by decide +kernel
theorem d_X_presenceOf_28 : decode b_X_presenceOf 28 = .ok (.iload_n 2, 1) := by decide +kernel
theorem d_X_presenceOf_29 : decode b_X_presenceOf 29 = .ok (.iconst (-1), 1) := by decide +kernel
theorem d_X_presenceOf_30 : decode b_X_presenceOf 30 = .ok (.invokespecial 11, 3) := by decide +kernel
theorem d_X_presenceOf_33 : decode b_X_presenceOf 33 = .ok (.areturn, 1) := by decide +kernel
theorem d_X_sendToWatchers_0 : decode b_X_sendToWatchers 0 = .ok (.aload_n 0, 1) := by decide +kernel
theorem d_X_sendToWatchers_1 : decode b_X_sendToWatchers 1 = .ok (.getfield 16, 3) := by decide +kernel
theorem d_X_sendToWatchers_4 : decode b_X_sendToWatchers 4 = .ok (.aload_n 1, 1) := by decide +kernel
theorem d_X_sendToWatchers_5 : decode b_X_sendToWatchers 5 = .ok (.getfield 80, 3) := by decide +kernel
theorem d_X_sendToWatchers_8 : decode b_X_sendToWatchers 8 = .ok (.aaload, 1) := by decide +kernel
theorem d_X_sendToWatchers_9 : decode b_X_sendToWatchers 9 = .ok (.astore_n 3, 1) := by decide +kernel
theorem d_X_sendToWatchers_10 : decode b_X_sendToWatchers 10 = .ok (.iconst 0, 1) := by decide +kernel
theorem d_X_sendToWatchers_11 : decode b_X_sendToWatchers 11 = .ok (.istore 4, 2) := by decide +kernel
theorem d_X_sendToWatchers_13 : decode b_X_sendToWatchers 13 = .ok (.iload 4, 2) := by decide +kernel
theorem d_X_sendToWatchers_15 : decode b_X_sendToWatchers 15 = .ok (.bipush 8, 2) := by decide +kernel
theorem d_X_sendToWatchers_17 : decode b_X_sendToWatchers 17 = .ok (.if_icmp .ge 30, 3) := by decide +kernel
theorem d_X_sendToWatchers_20 : decode b_X_sendToWatchers 20 = .ok (.aload_n 3, 1) := by decide +kernel
theorem d_X_sendToWatchers_21 : decode b_X_sendToWatchers 21 = .ok (.iload 4, 2) := by decide +kernel
theorem d_X_sendToWatchers_23 : decode b_X_sendToWatchers 23 = .ok (.iconst 2, 1) := by decide +kernel
theorem d_X_sendToWatchers_24 : decode b_X_sendToWatchers 24 = .ok (.invokevirtual 126, 3) := by decide +kernel
theorem d_X_sendToWatchers_27 : decode b_X_sendToWatchers 27 = .ok (.ifCond .eq 14, 3) := by decide +kernel
theorem d_X_sendToWatchers_30 : decode b_X_sendToWatchers 30 = .ok (.aload_n 0, 1) := by decide +kernel
theorem d_X_sendToWatchers_31 : decode b_X_sendToWatchers 31 = .ok (.aload_n 1, 1) := by decide +kernel
theorem d_X_sendToWatchers_32 : decode b_X_sendToWatchers 32 = .ok (.iload_n 2, 1) := by decide +kernel
theorem d_X_sendToWatchers_33 : decode b_X_sendToWatchers 33 = .ok (.iload 4, 2) := by decide +kernel
theorem d_X_sendToWatchers_35 : decode b_X_sendToWatchers 35 = .ok (.invokestatic 181, 3) := by decide +kernel
theorem d_X_sendToWatchers_38 : decode b_X_sendToWatchers 38 = .ok (.invokevirtual 123, 3) := by decide +kernel
theorem d_X_sendToWatchers_41 : decode b_X_sendToWatchers 41 = .ok (.iinc 4 1, 3) := by decide +kernel
theorem d_X_sendToWatchers_44 : decode b_X_sendToWatchers 44 = .ok (.goto (-31), 3) := by decide +kernel
theorem d_X_sendToWatchers_47 : decode b_X_sendToWatchers 47 = .ok (.return_, 1) := by decide +kernel
theorem d_X_sendPresences_0 : decode b_X_sendPresences 0 = .ok (.aload_n 0, 1) := by decide +kernel
theorem d_X_sendPresences_1 : decode b_X_sendPresences 1 = .ok (.getfield 25, 3) := by decide +kernel
theorem d_X_sendPresences_4 : decode b_X_sendPresences 4 = .ok (.astore 4, 2) := by decide +kernel
theorem d_X_sendPresences_6 : decode b_X_sendPresences 6 = .ok (.aload 4, 2) := by decide +kernel
theorem d_X_sendPresences_8 : decode b_X_sendPresences 8 = .ok (.arraylength, 1) := by decide +kernel
theorem d_X_sendPresences_9 : decode b_X_sendPresences 9 = .ok (.istore 5, 2) := by decide +kernel
theorem d_X_sendPresences_11 : decode b_X_sendPresences 11 = .ok (.iconst 0, 1) := by decide +kernel
theorem d_X_sendPresences_12 : decode b_X_sendPresences 12 = .ok (.istore 6, 2) := by decide +kernel
theorem d_X_sendPresences_14 : decode b_X_sendPresences 14 = .ok (.iload 6, 2) := by decide +kernel
theorem d_X_sendPresences_16 : decode b_X_sendPresences 16 = .ok (.iload 5, 2) := by decide +kernel
theorem d_X_sendPresences_18 : decode b_X_sendPresences 18 = .ok (.if_icmp .ge 36, 3) := by decide +kernel
theorem d_X_sendPresences_21 : decode b_X_sendPresences 21 = .ok (.aload 4, 2) := by decide +kernel
theorem d_X_sendPresences_23 : decode b_X_sendPresences 23 = .ok (.iload 6, 2) := by decide +kernel
theorem d_X_sendPresences_25 : decode b_X_sendPresences 25 = .ok (.aaload, 1) := by decide +kernel
theorem d_X_sendPresences_26 : decode b_X_sendPresences 26 = .ok (.astore 7, 2) := by decide +kernel
theorem d_X_sendPresences_28 : decode b_X_sendPresences 28 = .ok (.aload 7, 2) := by decide +kernel
theorem d_X_sendPresences_30 : decode b_X_sendPresences 30 = .ok (.iload_n 1, 1) := by decide +kernel
theorem d_X_sendPresences_31 : decode b_X_sendPresences 31 = .ok (.invokevirtual 185, 3) := by decide +kernel
theorem d_X_sendPresences_34 : decode b_X_sendPresences 34 = .ok (.ifCond .eq 14, 3) := by decide +kernel
theorem d_X_sendPresences_37 : decode b_X_sendPresences 37 = .ok (.aload_n 0, 1) := by decide +kernel
theorem d_X_sendPresences_38 : decode b_X_sendPresences 38 = .ok (.aload 7, 2) := by decide +kernel
theorem d_X_sendPresences_40 : decode b_X_sendPresences 40 = .ok (.iload_n 3, 1) := by decide +kernel
theorem d_X_sendPresences_41 : decode b_X_sendPresences 41 = .ok (.iload_n 2, 1) := by decide +kernel
theorem d_X_sendPresences_42 : decode b_X_sendPresences 42 = .ok (.invokestatic 181, 3) := by decide +kernel
theorem d_X_sendPresences_45 : decode b_X_sendPresences 45 = .ok (.invokevirtual 123, 3) := by decide +kernel
theorem d_X_sendPresences_48 : decode b_X_sendPresences 48 = .ok (.iinc 6 1, 3) := by decide +kernel
theorem d_X_sendPresences_51 : decode b_X_sendPresences 51 = .ok (.goto (-37), 3) := by decide +kernel
theorem d_X_sendPresences_54 : decode b_X_sendPresences 54 = .ok (.return_, 1) := by decide +kernel
theorem d_X_showOthers_0 : decode b_X_showOthers 0 = .ok (.aload_n 0, 1) := by decide +kernel
theorem d_X_showOthers_1 : decode b_X_showOthers 1 = .ok (.getfield 16, 3) := by decide +kernel
theorem d_X_showOthers_4 : decode b_X_showOthers 4 = .ok (.aload_n 1, 1) := by decide +kernel
theorem d_X_showOthers_5 : decode b_X_showOthers 5 = .ok (.getfield 80, 3) := by decide +kernel
theorem d_X_showOthers_8 : decode b_X_showOthers 8 = .ok (.aaload, 1) := by decide +kernel
theorem d_X_showOthers_9 : decode b_X_showOthers 9 = .ok (.astore_n 2, 1) := by decide +kernel
theorem d_X_showOthers_10 : decode b_X_showOthers 10 = .ok (.iconst 0, 1) := by decide +kernel
theorem d_X_showOthers_11 : decode b_X_showOthers 11 = .ok (.istore_n 3, 1) := by decide +kernel
theorem d_X_showOthers_12 : decode b_X_showOthers 12 = .ok (.iload_n 3, 1) := by decide +kernel
theorem d_X_showOthers_13 : decode b_X_showOthers 13 = .ok (.bipush 8, 2) := by decide +kernel
theorem d_X_showOthers_15 : decode b_X_showOthers 15 = .ok (.if_icmp .ge 36, 3) := by decide +kernel
theorem d_X_showOthers_18 : decode b_X_showOthers 18 = .ok (.aload_n 2, 1) := by decide +kernel
theorem d_X_showOthers_19 : decode b_X_showOthers 19 = .ok (.iload_n 3, 1) := by decide +kernel
theorem d_X_showOthers_20 : decode b_X_showOthers 20 = .ok (.iconst 1, 1) := by decide +kernel
theorem d_X_showOthers_21 : decode b_X_showOthers 21 = .ok (.invokevirtual 126, 3) := by decide +kernel
theorem d_X_showOthers_24 : decode b_X_showOthers 24 = .ok (.ifCond .eq 21, 3) := by decide +kernel
theorem d_X_showOthers_27 : decode b_X_showOthers 27 = .ok (.aload_n 0, 1) := by decide +kernel
theorem d_X_showOthers_28 : decode b_X_showOthers 28 = .ok (.aload_n 1, 1) := by decide +kernel
theorem d_X_showOthers_29 : decode b_X_showOthers 29 = .ok (.getfield 80, 3) := by decide +kernel
theorem d_X_showOthers_32 : decode b_X_showOthers 32 = .ok (.iload_n 3, 1) := by decide +kernel
theorem d_X_showOthers_33 : decode b_X_showOthers 33 = .ok (.invokevirtual 188, 3) := by decide +kernel
theorem d_X_showOthers_36 : decode b_X_showOthers 36 = .ok (.ifCond .eq 9, 3) := by decide +kernel
theorem d_X_showOthers_39 : decode b_X_showOthers 39 = .ok (.aload_n 0, 1) := by decide +kernel
theorem d_X_showOthers_40 : decode b_X_showOthers 40 = .ok (.iload_n 3, 1) := by decide +kernel
theorem d_X_showOthers_41 : decode b_X_showOthers 41 = .ok (.aload_n 1, 1) := by decide +kernel
theorem d_X_showOthers_42 : decode b_X_showOthers 42 = .ok (.invokevirtual 191, 3) := by decide +kernel
theorem d_X_showOthers_45 : decode b_X_showOthers 45 = .ok (.iinc 3 1, 3) := by decide +kernel
theorem d_X_showOthers_48 : decode b_X_showOthers 48 = .ok (.goto (-36), 3) := by decide +kernel
theorem d_X_showOthers_51 : decode b_X_showOthers 51 = .ok (.return_, 1) := by decide +kernel
theorem d_X_showConnectionsOf_0 : decode b_X_showConnectionsOf 0 = .ok (.aload_n 0, 1) := by decide +kernel
theorem d_X_showConnectionsOf_1 : decode b_X_showConnectionsOf 1 = .ok (.getfield 25, 3) := by decide +kernel
theorem d_X_showConnectionsOf_4 : decode b_X_showConnectionsOf 4 = .ok (.astore_n 3, 1) := by decide +kernel
theorem d_X_showConnectionsOf_5 : decode b_X_showConnectionsOf 5 = .ok (.aload_n 3, 1) := by decide +kernel
theorem d_X_showConnectionsOf_6 : decode b_X_showConnectionsOf 6 = .ok (.arraylength, 1) := by decide +kernel
theorem d_X_showConnectionsOf_7 : decode b_X_showConnectionsOf 7 = .ok (.istore 4, 2) := by decide +kernel
theorem d_X_showConnectionsOf_9 : decode b_X_showConnectionsOf 9 = .ok (.iconst 0, 1) := by decide +kernel
theorem d_X_showConnectionsOf_10 : decode b_X_showConnectionsOf 10 = .ok (.istore 5, 2) := by decide +kernel
theorem d_X_showConnectionsOf_12 : decode b_X_showConnectionsOf 12 = .ok (.iload 5, 2) := by decide +kernel
theorem d_X_showConnectionsOf_14 : decode b_X_showConnectionsOf 14 = .ok (.iload 4, 2) := by decide +kernel
theorem d_X_showConnectionsOf_16 : decode b_X_showConnectionsOf 16 = .ok (.if_icmp .ge 41, 3) := by decide +kernel
theorem d_X_showConnectionsOf_19 : decode b_X_showConnectionsOf 19 = .ok (.aload_n 3, 1) := by decide +kernel
theorem d_X_showConnectionsOf_20 : decode b_X_showConnectionsOf 20 = .ok (.iload 5, 2) := by decide +kernel
theorem d_X_showConnectionsOf_22 : decode b_X_showConnectionsOf 22 = .ok (.aaload, 1) := by decide +kernel
theorem d_X_showConnectionsOf_23 : decode b_X_showConnectionsOf 23 = .ok (.astore 6, 2) := by decide +kernel
theorem d_X_showConnectionsOf_25 : decode b_X_showConnectionsOf 25 = .ok (.aload 6, 2) := by decide +kernel
theorem d_X_showConnectionsOf_27 : decode b_X_showConnectionsOf 27 = .ok (.iload_n 1, 1) := by decide +kernel
theorem d_X_showConnectionsOf_28 : decode b_X_showConnectionsOf 28 = .ok (.invokevirtual 185, 3) := by decide +kernel
theorem d_X_showConnectionsOf_31 : decode b_X_showConnectionsOf 31 = .ok (.ifCond .eq 20, 3) := by decide +kernel
theorem d_X_showConnectionsOf_34 : decode b_X_showConnectionsOf 34 = .ok (.aload_n 2, 1) := by decide +kernel
theorem d_X_showConnectionsOf_35 : decode b_X_showConnectionsOf 35 = .ok (.getfield 74, 3) := by decide +kernel
theorem d_X_showConnectionsOf_38 : decode b_X_showConnectionsOf 38 = .ok (.aload 6, 2) := by decide +kernel
theorem d_X_showConnectionsOf_40 : decode b_X_showConnectionsOf 40 = .ok (.iconst 2, 1) := by decide +kernel
theorem d_X_showConnectionsOf_41 : decode b_X_showConnectionsOf 41 = .ok (.aload_n 2, 1) := by decide +kernel
theorem d_X_showConnectionsOf_42 : decode b_X_showConnectionsOf 42 = .ok (.getfield 80, 3) := by decide +kernel
theorem d_X_showConnectionsOf_45 : decode b_X_showConnectionsOf 45 = .ok (.invokestatic 181, 3) := by decide +kernel
theorem d_X_showConnectionsOf_48 : decode b_X_showConnectionsOf 48 = .ok (.invokevirtual 195, 3) := by decide +kernel
theorem d_X_showConnectionsOf_51 : decode b_X_showConnectionsOf 51 = .ok (.iinc 5 1, 3) := by decide +kernel
theorem d_X_showConnectionsOf_54 : decode b_X_showConnectionsOf 54 = .ok (.goto (-42), 3) := by decide +kernel
theorem d_X_showConnectionsOf_57 : decode b_X_showConnectionsOf 57 = .ok (.return_, 1) := by decide +kernel
theorem d_X_handOverKept_0 : decode b_X_handOverKept 0 = .ok (.aload_n 0, 1) := by decide +kernel
theorem d_X_handOverKept_1 : decode b_X_handOverKept 1 = .ok (.getfield 16, 3) := by decide +kernel
theorem d_X_handOverKept_4 : decode b_X_handOverKept 4 = .ok (.aload_n 1, 1) := by decide +kernel
theorem d_X_handOverKept_5 : decode b_X_handOverKept 5 = .ok (.getfield 80, 3) := by decide +kernel
theorem d_X_handOverKept_8 : decode b_X_handOverKept 8 = .ok (.aaload, 1) := by decide +kernel
theorem d_X_handOverKept_9 : decode b_X_handOverKept 9 = .ok (.getfield 172, 3) := by decide +kernel
theorem d_X_handOverKept_12 : decode b_X_handOverKept 12 = .ok (.astore_n 2, 1) := by decide +kernel
theorem d_X_handOverKept_13 : decode b_X_handOverKept 13 = .ok (.aload_n 2, 1) := by decide +kernel
theorem d_X_handOverKept_14 : decode b_X_handOverKept 14 = .ok (.getfield 120, 3) := by decide +kernel
theorem d_X_handOverKept_17 : decode b_X_handOverKept 17 = .ok (.istore_n 3, 1) := by decide +kernel
theorem d_X_handOverKept_18 : decode b_X_handOverKept 18 = .ok (.iconst 0, 1) := by decide +kernel
theorem d_X_handOverKept_19 : decode b_X_handOverKept 19 = .ok (.istore 4, 2) := by decide +kernel
theorem d_X_handOverKept_21 : decode b_X_handOverKept 21 = .ok (.iload 4, 2) := by decide +kernel
theorem d_X_handOverKept_23 : decode b_X_handOverKept 23 = .ok (.iload_n 3, 1) := by decide +kernel
theorem d_X_handOverKept_24 : decode b_X_handOverKept 24 = .ok (.if_icmp .ge 20, 3) := by decide +kernel
theorem d_X_handOverKept_27 : decode b_X_handOverKept 27 = .ok (.aload_n 1, 1) := by decide +kernel
theorem d_X_handOverKept_28 : decode b_X_handOverKept 28 = .ok (.getfield 74, 3) := by decide +kernel
theorem d_X_handOverKept_31 : decode b_X_handOverKept 31 = .ok (.aload_n 2, 1) := by decide +kernel
theorem d_X_handOverKept_32 : decode b_X_handOverKept 32 = .ok (.invokevirtual 138, 3) := by decide +kernel
theorem d_X_handOverKept_35 : decode b_X_handOverKept 35 = .ok (.invokevirtual 195, 3) := by decide +kernel
theorem d_X_handOverKept_38 : decode b_X_handOverKept 38 = .ok (.iinc 4 1, 3) := by decide +kernel
theorem d_X_handOverKept_41 : decode b_X_handOverKept 41 = .ok (.goto (-20), 3) := by decide +kernel
theorem d_X_handOverKept_44 : decode b_X_handOverKept 44 = .ok (.return_, 1) := by decide +kernel
theorem d_X_changeOwnMarks_0 : decode b_X_changeOwnMarks 0 = .ok (.iload_n 2, 1) := by decide +kernel
theorem d_X_changeOwnMarks_1 : decode b_X_changeOwnMarks 1 = .ok (.tableswitch 84 4 7 #[31, 49, 65, 74], 31) := by decide +kernel
theorem d_X_changeOwnMarks_32 : decode b_X_changeOwnMarks 32 = .ok (.aload_n 0, 1) := by decide +kernel
theorem d_X_changeOwnMarks_33 : decode b_X_changeOwnMarks 33 = .ok (.iload_n 1, 1) := by decide +kernel
theorem d_X_changeOwnMarks_34 : decode b_X_changeOwnMarks 34 = .ok (.iconst 1, 1) := by decide +kernel
theorem d_X_changeOwnMarks_35 : decode b_X_changeOwnMarks 35 = .ok (.invokevirtual 126, 3) := by decide +kernel
theorem d_X_changeOwnMarks_38 : decode b_X_changeOwnMarks 38 = .ok (.ifCond .ne 47, 3) := by decide +kernel
theorem d_X_changeOwnMarks_41 : decode b_X_changeOwnMarks 41 = .ok (.aload_n 0, 1) := by decide +kernel
theorem d_X_changeOwnMarks_42 : decode b_X_changeOwnMarks 42 = .ok (.iload_n 1, 1) := by decide +kernel
theorem d_X_changeOwnMarks_43 : decode b_X_changeOwnMarks 43 = .ok (.iconst 4, 1) := by decide +kernel
theorem d_X_changeOwnMarks_44 : decode b_X_changeOwnMarks 44 = .ok (.invokevirtual 198, 3) := by decide +kernel
theorem d_X_changeOwnMarks_47 : decode b_X_changeOwnMarks 47 = .ok (.goto 38, 3) := by decide +kernel
theorem d_X_changeOwnMarks_50 : decode b_X_changeOwnMarks 50 = .ok (.aload_n 0, 1) := by decide +kernel
theorem d_X_changeOwnMarks_51 : decode b_X_changeOwnMarks 51 = .ok (.iload_n 1, 1) := by decide +kernel
theorem d_X_changeOwnMarks_52 : decode b_X_changeOwnMarks 52 = .ok (.iconst 2, 1) := by decide +kernel
theorem d_X_changeOwnMarks_53 : decode b_X_changeOwnMarks 53 = .ok (.invokevirtual 198, 3) := by decide +kernel
theorem d_X_changeOwnMarks_56 : decode b_X_changeOwnMarks 56 = .ok (.aload_n 0, 1) := by decide +kernel
theorem d_X_changeOwnMarks_57 : decode b_X_changeOwnMarks 57 = .ok (.iload_n 1, 1) := by decide +kernel
theorem d_X_changeOwnMarks_58 : decode b_X_changeOwnMarks 58 = .ok (.bipush 8, 2) := by decide +kernel
theorem d_X_changeOwnMarks_60 : decode b_X_changeOwnMarks 60 = .ok (.invokevirtual 202, 3) := by decide +kernel
theorem d_X_changeOwnMarks_63 : decode b_X_changeOwnMarks 63 = .ok (.goto 22, 3) := by decide +kernel
theorem d_X_changeOwnMarks_66 : decode b_X_changeOwnMarks 66 = .ok (.aload_n 0, 1) := by decide +kernel
theorem d_X_changeOwnMarks_67 : decode b_X_changeOwnMarks 67 = .ok (.iload_n 1, 1) := by decide +kernel
theorem d_X_changeOwnMarks_68 : decode b_X_changeOwnMarks 68 = .ok (.iconst 5, 1) := by decide +kernel
theorem d_X_changeOwnMarks_69 : decode b_X_changeOwnMarks 69 = .ok (.invokevirtual 202, 3) := by decide +kernel
theorem d_X_changeOwnMarks_72 : decode b_X_changeOwnMarks 72 = .ok (.goto 13, 3) := by decide +kernel
theorem d_X_changeOwnMarks_75 : decode b_X_changeOwnMarks 75 = .ok (.aload_n 0, 1) := by decide +kernel
theorem d_X_changeOwnMarks_76 : decode b_X_changeOwnMarks 76 = .ok (.iload_n 1, 1) := by decide +kernel
theorem d_X_changeOwnMarks_77 : decode b_X_changeOwnMarks 77 = .ok (.bipush 10, 2) := by decide +kernel
theorem d_X_changeOwnMarks_79 : decode b_X_changeOwnMarks 79 = .ok (.invokevirtual 202, 3) := by decide +kernel
theorem d_X_changeOwnMarks_82 : decode b_X_changeOwnMarks 82 = .ok (.goto 3, 3) := by decide +kernel
theorem d_X_changeOwnMarks_85 : decode b_X_changeOwnMarks 85 = .ok (.return_, 1) := by decide +kernel
theorem d_X_send_0 : decode b_X_send 0 = .ok (.aload_n 0, 1) := by decide +kernel
theorem d_X_send_1 : decode b_X_send 1 = .ok (.aload_n 1, 1) := by decide +kernel
theorem d_X_send_2 : decode b_X_send 2 = .ok (.getfield 151, 3) := by decide +kernel
theorem d_X_send_5 : decode b_X_send 5 = .ok (.aload_n 1, 1) := by decide +kernel
theorem d_X_send_6 : decode b_X_send 6 = .ok (.getfield 205, 3) := by decide +kernel
theorem d_X_send_9 : decode b_X_send 9 = .ok (.invokevirtual 188, 3) := by decide +kernel
theorem d_X_send_12 : decode b_X_send 12 = .ok (.ifCond .eq 11, 3) := by decide +kernel
theorem d_X_send_15 : decode b_X_send 15 = .ok (.aload_n 0, 1) := by decide +kernel
theorem d_X_send_16 : decode b_X_send 16 = .ok (.aload_n 1, 1) := by decide +kernel
theorem d_X_send_17 : decode b_X_send 17 = .ok (.invokevirtual 142, 3) := by decide +kernel
theorem d_X_send_20 : decode b_X_send 20 = .ok (.goto 37, 3) := by decide +kernel
theorem d_X_send_23 : decode b_X_send 23 = .ok (.aload_n 0, 1) := by decide +kernel
theorem d_X_send_24 : decode b_X_send 24 = .ok (.getfield 35, 3) := by decide +kernel
theorem d_X_send_27 : decode b_X_send 27 = .ok (.invokevirtual 208, 3) := by decide +kernel
theorem d_X_send_30 : decode b_X_send 30 = .ok (.ifCond .ne 14, 3) := by decide +kernel
theorem d_X_send_33 : decode b_X_send 33 = .ok (.aload_n 0, 1) := by decide +kernel
theorem d_X_send_34 : decode b_X_send 34 = .ok (.getfield 35, 3) := by decide +kernel
theorem d_X_send_37 : decode b_X_send 37 = .ok (.aload_n 1, 1) := by decide +kernel
theorem d_X_send_38 : decode b_X_send 38 = .ok (.invokevirtual 195, 3) := by decide +kernel
theorem d_X_send_41 : decode b_X_send 41 = .ok (.goto 16, 3) := by decide +kernel
theorem d_X_send_44 : decode b_X_send 44 = .ok (.aload_n 1, 1) := by decide +kernel
theorem d_X_send_45 : decode b_X_send 45 = .ok (.getfield 148, 3) := by decide +kernel
theorem d_X_send_48 : decode b_X_send 48 = .ok (.iconst 1, 1) := by decide +kernel
theorem d_X_send_49 : decode b_X_send 49 = .ok (.if_icmp .ne 8, 3) := by decide +kernel
theorem d_X_send_52 : decode b_X_send 52 = .ok (.aload_n 0, 1) := by decide +kernel
theorem d_X_send_53 : decode b_X_send 53 = .ok (.aload_n 1, 1) := by decide +kernel
theorem d_X_send_54 : decode b_X_send 54 = .ok (.invokevirtual 212, 3) := by decide +kernel
theorem d_X_send_57 : decode b_X_send 57 = .ok (.return_, 1) := by decide +kernel
theorem d_X_returnError_0 : decode b_X_returnError 0 = .ok (.aload_n 0, 1) := by decide +kernel
theorem d_X_returnError_1 : decode b_X_returnError 1 = .ok (.new 7, 3) := by decide +kernel
theorem d_X_returnError_4 : decode b_X_returnError 4 = .ok (.dup, 1) := by decide +kernel
theorem d_X_returnError_5 : decode b_X_returnError 5 = .ok (.bipush 8, 2) := by decide +kernel
theorem d_X_returnError_7 : decode b_X_returnError 7 = .ok (.aload_n 1, 1) := by decide +kernel
theorem d_X_returnError_8 : decode b_X_returnError 8 = .ok (.getfield 205, 3) := by decide +kernel
theorem d_X_returnError_11 : decode b_X_returnError 11 = .ok (.iconst (-1), 1) := by decide +kernel
theorem d_X_returnError_12 : decode b_X_returnError 12 = .ok (.aload_n 1, 1) := by decide +kernel
theorem d_X_returnError_13 : decode b_X_returnError 13 = .ok (.getfield 155, 3) := by decide +kernel
theorem d_X_returnError_16 : decode b_X_returnError 16 = .ok (.aload_n 1, 1) := by decide +kernel
theorem d_X_returnError_17 : decode b_X_returnError 17 = .ok (.getfield 151, 3) := by decide +kernel
theorem d_X_returnError_20 : decode b_X_returnError 20 = .ok (.iconst (-1), 1) := by decide +kernel
theorem d_X_returnError_21 : decode b_X_returnError 21 = .ok (.invokespecial 11, 3) := by decide +kernel
theorem d_X_returnError_24 : decode b_X_returnError 24 = .ok (.invokevirtual 215, 3) := by decide +kernel
theorem d_X_returnError_27 : decode b_X_returnError 27 = .ok (.return_, 1) := by decide +kernel
theorem d_X_giveToAvailable_0 : decode b_X_giveToAvailable 0 = .ok (.aload_n 0, 1) := by decide +kernel
theorem d_X_giveToAvailable_1 : decode b_X_giveToAvailable 1 = .ok (.getfield 25, 3) := by decide +kernel
theorem d_X_giveToAvailable_4 : decode b_X_giveToAvailable 4 = .ok (.astore_n 2, 1) := by decide +kernel
theorem d_X_giveToAvailable_5 : decode b_X_giveToAvailable 5 = .ok (.aload_n 2, 1) := by decide +kernel
theorem d_X_giveToAvailable_6 : decode b_X_giveToAvailable 6 = .ok (.arraylength, 1) := by decide +kernel
theorem d_X_giveToAvailable_7 : decode b_X_giveToAvailable 7 = .ok (.istore_n 3, 1) := by decide +kernel
theorem d_X_giveToAvailable_8 : decode b_X_giveToAvailable 8 = .ok (.iconst 0, 1) := by decide +kernel
theorem d_X_giveToAvailable_9 : decode b_X_giveToAvailable 9 = .ok (.istore 4, 2) := by decide +kernel
theorem d_X_giveToAvailable_11 : decode b_X_giveToAvailable 11 = .ok (.iload 4, 2) := by decide +kernel
theorem d_X_giveToAvailable_13 : decode b_X_giveToAvailable 13 = .ok (.iload_n 3, 1) := by decide +kernel
theorem d_X_giveToAvailable_14 : decode b_X_giveToAvailable 14 = .ok (.if_icmp .ge 36, 3) := by decide +kernel
theorem d_X_giveToAvailable_17 : decode b_X_giveToAvailable 17 = .ok (.aload_n 2, 1) := by decide +kernel
theorem d_X_giveToAvailable_18 : decode b_X_giveToAvailable 18 = .ok (.iload 4, 2) := by decide +kernel
theorem d_X_giveToAvailable_20 : decode b_X_giveToAvailable 20 = .ok (.aaload, 1) := by decide +kernel
theorem d_X_giveToAvailable_21 : decode b_X_giveToAvailable 21 = .ok (.astore 5, 2) := by decide +kernel
theorem d_X_giveToAvailable_23 : decode b_X_giveToAvailable 23 = .ok (.aload 5, 2) := by decide +kernel
theorem d_X_giveToAvailable_25 : decode b_X_giveToAvailable 25 = .ok (.aload_n 1, 1) := by decide +kernel
theorem d_X_giveToAvailable_26 : decode b_X_giveToAvailable 26 = .ok (.getfield 205, 3) := by decide +kernel
theorem d_X_giveToAvailable_29 : decode b_X_giveToAvailable 29 = .ok (.invokevirtual 185, 3) := by decide +kernel
theorem d_X_giveToAvailable_32 : decode b_X_giveToAvailable 32 = .ok (.ifCond .eq 12, 3) := by decide +kernel
theorem d_X_giveToAvailable_35 : decode b_X_giveToAvailable 35 = .ok (.aload 5, 2) := by decide +kernel
theorem d_X_giveToAvailable_37 : decode b_X_giveToAvailable 37 = .ok (.getfield 74, 3) := by decide +kernel
theorem d_X_giveToAvailable_40 : decode b_X_giveToAvailable 40 = .ok (.aload_n 1, 1) := by decide +kernel
theorem d_X_giveToAvailable_41 : decode b_X_giveToAvailable 41 = .ok (.invokevirtual 195, 3) := by decide +kernel
theorem d_X_giveToAvailable_44 : decode b_X_giveToAvailable 44 = .ok (.iinc 4 1, 3) := by decide +kernel
theorem d_X_giveToAvailable_47 : decode b_X_giveToAvailable 47 = .ok (.goto (-36), 3) := by decide +kernel
theorem d_X_giveToAvailable_50 : decode b_X_giveToAvailable 50 = .ok (.return_, 1) := by decide +kernel
theorem d_X_arrive_0 : decode b_X_arrive 0 = .ok (.aload_n 1, 1) := by decide +kernel
theorem d_X_arrive_1 : decode b_X_arrive 1 = .ok (.getfield 148, 3) := by decide +kernel
theorem d_X_arrive_4 : decode b_X_arrive 4 = .ok (.tableswitch 115 1 7 #[44, 87, 87, 52, 60, 68, 78], 44) := by decide +kernel
theorem d_X_arrive_48 : decode b_X_arrive 48 = .ok (.aload_n 0, 1) := by decide +kernel
theorem d_X_arrive_49 : decode b_X_arrive 49 = .ok (.aload_n 1, 1) := by decide +kernel
theorem d_X_arrive_50 : decode b_X_arrive 50 = .ok (.invokevirtual 218, 3) := by decide +kernel
theorem d_X_arrive_53 : decode b_X_arrive 53 = .ok (.goto 66, 3) := by decide +kernel
theorem d_X_arrive_56 : decode b_X_arrive 56 = .ok (.aload_n 0, 1) := by decide +kernel
theorem d_X_arrive_57 : decode b_X_arrive 57 = .ok (.aload_n 1, 1) := by decide +kernel
theorem d_X_arrive_58 : decode b_X_arrive 58 = .ok (.invokevirtual 221, 3) := by decide +kernel
theorem d_X_arrive_61 : decode b_X_arrive 61 = .ok (.goto 58, 3) := by decide +kernel
theorem d_X_arrive_64 : decode b_X_arrive 64 = .ok (.aload_n 0, 1) := by decide +kernel
theorem d_X_arrive_65 : decode b_X_arrive 65 = .ok (.aload_n 1, 1) := by decide +kernel
theorem d_X_arrive_66 : decode b_X_arrive 66 = .ok (.invokevirtual 224, 3) := by decide +kernel
theorem d_X_arrive_69 : decode b_X_arrive 69 = .ok (.goto 50, 3) := by decide +kernel
theorem d_X_arrive_72 : decode b_X_arrive 72 = .ok (.aload_n 0, 1) := by decide +kernel
theorem d_X_arrive_73 : decode b_X_arrive 73 = .ok (.aload_n 1, 1) := by decide +kernel
theorem d_X_arrive_74 : decode b_X_arrive 74 = .ok (.bipush 10, 2) := by decide +kernel
theorem d_X_arrive_76 : decode b_X_arrive 76 = .ok (.invokevirtual 227, 3) := by decide +kernel
theorem d_X_arrive_79 : decode b_X_arrive 79 = .ok (.goto 40, 3) := by decide +kernel
theorem d_X_arrive_82 : decode b_X_arrive 82 = .ok (.aload_n 0, 1) := by decide +kernel
theorem d_X_arrive_83 : decode b_X_arrive 83 = .ok (.aload_n 1, 1) := by decide +kernel
theorem d_X_arrive_84 : decode b_X_arrive 84 = .ok (.iconst 5, 1) := by decide +kernel
theorem d_X_arrive_85 : decode b_X_arrive 85 = .ok (.invokevirtual 227, 3) := by decide +kernel
theorem d_X_arrive_88 : decode b_X_arrive 88 = .ok (.goto 31, 3) := by decide +kernel
theorem d_X_arrive_91 : decode b_X_arrive 91 = .ok (.aload_n 0, 1) := by decide +kernel
theorem d_X_arrive_92 : decode b_X_arrive 92 = .ok (.getfield 16, 3) := by decide +kernel
theorem d_X_arrive_95 : decode b_X_arrive 95 = .ok (.aload_n 1, 1) := by decide +kernel
theorem d_X_arrive_96 : decode b_X_arrive 96 = .ok (.getfield 205, 3) := by decide +kernel
theorem d_X_arrive_99 : decode b_X_arrive 99 = .ok (.aaload, 1) := by decide +kernel
theorem d_X_arrive_100 : decode b_X_arrive 100 = .ok (.aload_n 1, 1) := by decide +kernel
theorem d_X_arrive_101 : decode b_X_arrive 101 = .ok (.getfield 151, 3) := by decide +kernel
theorem d_X_arrive_104 : decode b_X_arrive 104 = .ok (.iconst 1, 1) := by decide +kernel
theorem d_X_arrive_105 : decode b_X_arrive 105 = .ok (.invokevirtual 126, 3) := by decide +kernel
theorem d_X_arrive_108 : decode b_X_arrive 108 = .ok (.ifCond .eq 11, 3) := by decide +kernel
theorem d_X_arrive_111 : decode b_X_arrive 111 = .ok (.aload_n 0, 1) := by decide +kernel
theorem d_X_arrive_112 : decode b_X_arrive 112 = .ok (.aload_n 1, 1) := by decide +kernel
theorem d_X_arrive_113 : decode b_X_arrive 113 = .ok (.invokevirtual 215, 3) := by decide +kernel
theorem d_X_arrive_116 : decode b_X_arrive 116 = .ok (.goto 3, 3) := by decide +kernel
theorem d_X_arrive_119 : decode b_X_arrive 119 = .ok (.return_, 1) := by decide +kernel
theorem d_X_messageArrives_0 : decode b_X_messageArrives 0 = .ok (.aload_n 0, 1) := by decide +kernel
theorem d_X_messageArrives_1 : decode b_X_messageArrives 1 = .ok (.aload_n 1, 1) := by decide +kernel
theorem d_X_messageArrives_2 : decode b_X_messageArrives 2 = .ok (.getfield 205, 3) := by decide +kernel
theorem d_X_messageArrives_5 : decode b_X_messageArrives 5 = .ok (.aload_n 1, 1) := by decide +kernel
theorem d_X_messageArrives_6 : decode b_X_messageArrives 6 = .ok (.getfield 231, 3) := by decide +kernel
theorem d_X_messageArrives_9 : decode b_X_messageArrives 9 = .ok (.invokevirtual 93, 3) := by decide +kernel
theorem d_X_messageArrives_12 : decode b_X_messageArrives 12 = .ok (.astore_n 2, 1) := by decide +kernel
theorem d_X_messageArrives_13 : decode b_X_messageArrives 13 = .ok (.aload_n 2, 1) := by decide +kernel
theorem d_X_messageArrives_14 : decode b_X_messageArrives 14 = .ok (.ifnull 19, 3) := by decide +kernel
theorem d_X_messageArrives_17 : decode b_X_messageArrives 17 = .ok (.aload_n 2, 1) := by decide +kernel
theorem d_X_messageArrives_18 : decode b_X_messageArrives 18 = .ok (.getfield 104, 3) := by decide +kernel
theorem d_X_messageArrives_21 : decode b_X_messageArrives 21 = .ok (.ifCond .eq 12, 3) := by decide +kernel
theorem d_X_messageArrives_24 : decode b_X_messageArrives 24 = .ok (.aload_n 2, 1) := by decide +kernel
theorem d_X_messageArrives_25 : decode b_X_messageArrives 25 = .ok (.getfield 74, 3) := by decide +kernel
theorem d_X_messageArrives_28 : decode b_X_messageArrives 28 = .ok (.aload_n 1, 1) := by decide +kernel
theorem d_X_messageArrives_29 : decode b_X_messageArrives 29 = .ok (.invokevirtual 195, 3) := by decide +kernel
theorem d_X_messageArrives_32 : decode b_X_messageArrives 32 = .ok (.return_, 1) := by decide +kernel
theorem d_X_messageArrives_33 : decode b_X_messageArrives 33 = .ok (.aload_n 0, 1) := by decide +kernel
