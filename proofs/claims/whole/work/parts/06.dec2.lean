theorem d_X_messageArrives_34 : decode b_X_messageArrives 34 = .ok (.aload_n 1, 1) := by decide +kernel
theorem d_X_messageArrives_35 : decode b_X_messageArrives 35 = .ok (.getfield 205, 3) := by decide +kernel
theorem d_X_messageArrives_38 : decode b_X_messageArrives 38 = .ok (.invokevirtual 234, 3) := by decide +kernel
theorem d_X_messageArrives_41 : decode b_X_messageArrives 41 = .ok (.istore_n 3, 1) := by decide +kernel
theorem d_X_messageArrives_42 : decode b_X_messageArrives 42 = .ok (.aload_n 0, 1) := by decide +kernel
theorem d_X_messageArrives_43 : decode b_X_messageArrives 43 = .ok (.getfield 16, 3) := by decide +kernel
theorem d_X_messageArrives_46 : decode b_X_messageArrives 46 = .ok (.aload_n 1, 1) := by decide +kernel
theorem d_X_messageArrives_47 : decode b_X_messageArrives 47 = .ok (.getfield 205, 3) := by decide +kernel
theorem d_X_messageArrives_50 : decode b_X_messageArrives 50 = .ok (.aaload, 1) := by decide +kernel
theorem d_X_messageArrives_51 : decode b_X_messageArrives 51 = .ok (.astore 4, 2) := by decide +kernel
theorem d_X_messageArrives_53 : decode b_X_messageArrives 53 = .ok (.iload_n 3, 1) := by decide +kernel
theorem d_X_messageArrives_54 : decode b_X_messageArrives 54 = .ok (.ifCond .lt 12, 3) := by decide +kernel
theorem d_X_messageArrives_57 : decode b_X_messageArrives 57 = .ok (.aload_n 0, 1) := by decide +kernel
theorem d_X_messageArrives_58 : decode b_X_messageArrives 58 = .ok (.aload_n 1, 1) := by decide +kernel
theorem d_X_messageArrives_59 : decode b_X_messageArrives 59 = .ok (.iload_n 3, 1) := by decide +kernel
theorem d_X_messageArrives_60 : decode b_X_messageArrives 60 = .ok (.invokevirtual 238, 3) := by decide +kernel
theorem d_X_messageArrives_63 : decode b_X_messageArrives 63 = .ok (.goto 39, 3) := by decide +kernel
theorem d_X_messageArrives_66 : decode b_X_messageArrives 66 = .ok (.aload 4, 2) := by decide +kernel
theorem d_X_messageArrives_68 : decode b_X_messageArrives 68 = .ok (.getfield 59, 3) := by decide +kernel
theorem d_X_messageArrives_71 : decode b_X_messageArrives 71 = .ok (.ifCond .eq 26, 3) := by decide +kernel
theorem d_X_messageArrives_74 : decode b_X_messageArrives 74 = .ok (.aload 4, 2) := by decide +kernel
theorem d_X_messageArrives_76 : decode b_X_messageArrives 76 = .ok (.getfield 172, 3) := by decide +kernel
theorem d_X_messageArrives_79 : decode b_X_messageArrives 79 = .ok (.invokevirtual 208, 3) := by decide +kernel
theorem d_X_messageArrives_82 : decode b_X_messageArrives 82 = .ok (.ifCond .ne 15, 3) := by decide +kernel
theorem d_X_messageArrives_85 : decode b_X_messageArrives 85 = .ok (.aload 4, 2) := by decide +kernel
theorem d_X_messageArrives_87 : decode b_X_messageArrives 87 = .ok (.getfield 172, 3) := by decide +kernel
theorem d_X_messageArrives_90 : decode b_X_messageArrives 90 = .ok (.aload_n 1, 1) := by decide +kernel
theorem d_X_messageArrives_91 : decode b_X_messageArrives 91 = .ok (.invokevirtual 195, 3) := by decide +kernel
theorem d_X_messageArrives_94 : decode b_X_messageArrives 94 = .ok (.goto 8, 3) := by decide +kernel
theorem d_X_messageArrives_97 : decode b_X_messageArrives 97 = .ok (.aload_n 0, 1) := by decide +kernel
theorem d_X_messageArrives_98 : decode b_X_messageArrives 98 = .ok (.aload_n 1, 1) := by decide +kernel
theorem d_X_messageArrives_99 : decode b_X_messageArrives 99 = .ok (.invokevirtual 212, 3) := by decide +kernel
theorem d_X_messageArrives_102 : decode b_X_messageArrives 102 = .ok (.return_, 1) := by decide +kernel
theorem d_X_greatestPriority_0 : decode b_X_greatestPriority 0 = .ok (.iconst (-1), 1) := by decide +kernel
theorem d_X_greatestPriority_1 : decode b_X_greatestPriority 1 = .ok (.istore_n 2, 1) := by decide +kernel
theorem d_X_greatestPriority_2 : decode b_X_greatestPriority 2 = .ok (.aload_n 0, 1) := by decide +kernel
theorem d_X_greatestPriority_3 : decode b_X_greatestPriority 3 = .ok (.getfield 25, 3) := by decide +kernel
theorem d_X_greatestPriority_6 : decode b_X_greatestPriority 6 = .ok (.astore_n 3, 1) := by decide +kernel
theorem d_X_greatestPriority_7 : decode b_X_greatestPriority 7 = .ok (.aload_n 3, 1) := by decide +kernel
theorem d_X_greatestPriority_8 : decode b_X_greatestPriority 8 = .ok (.arraylength, 1) := by decide +kernel
theorem d_X_greatestPriority_9 : decode b_X_greatestPriority 9 = .ok (.istore 4, 2) := by decide +kernel
theorem d_X_greatestPriority_11 : decode b_X_greatestPriority 11 = .ok (.iconst 0, 1) := by decide +kernel
theorem d_X_greatestPriority_12 : decode b_X_greatestPriority 12 = .ok (.istore 5, 2) := by decide +kernel
theorem d_X_greatestPriority_14 : decode b_X_greatestPriority 14 = .ok (.iload 5, 2) := by decide +kernel
theorem d_X_greatestPriority_16 : decode b_X_greatestPriority 16 = .ok (.iload 4, 2) := by decide +kernel
theorem d_X_greatestPriority_18 : decode b_X_greatestPriority 18 = .ok (.if_icmp .ge 39, 3) := by decide +kernel
theorem d_X_greatestPriority_21 : decode b_X_greatestPriority 21 = .ok (.aload_n 3, 1) := by decide +kernel
theorem d_X_greatestPriority_22 : decode b_X_greatestPriority 22 = .ok (.iload 5, 2) := by decide +kernel
theorem d_X_greatestPriority_24 : decode b_X_greatestPriority 24 = .ok (.aaload, 1) := by decide +kernel
theorem d_X_greatestPriority_25 : decode b_X_greatestPriority 25 = .ok (.astore 6, 2) := by decide +kernel
theorem d_X_greatestPriority_27 : decode b_X_greatestPriority 27 = .ok (.aload 6, 2) := by decide +kernel
theorem d_X_greatestPriority_29 : decode b_X_greatestPriority 29 = .ok (.iload_n 1, 1) := by decide +kernel
theorem d_X_greatestPriority_30 : decode b_X_greatestPriority 30 = .ok (.invokevirtual 185, 3) := by decide +kernel
theorem d_X_greatestPriority_33 : decode b_X_greatestPriority 33 = .ok (.ifCond .eq 18, 3) := by decide +kernel
theorem d_X_greatestPriority_36 : decode b_X_greatestPriority 36 = .ok (.aload 6, 2) := by decide +kernel
theorem d_X_greatestPriority_38 : decode b_X_greatestPriority 38 = .ok (.getfield 107, 3) := by decide +kernel
theorem d_X_greatestPriority_41 : decode b_X_greatestPriority 41 = .ok (.iload_n 2, 1) := by decide +kernel
theorem d_X_greatestPriority_42 : decode b_X_greatestPriority 42 = .ok (.if_icmp .le 9, 3) := by decide +kernel
theorem d_X_greatestPriority_45 : decode b_X_greatestPriority 45 = .ok (.aload 6, 2) := by decide +kernel
theorem d_X_greatestPriority_47 : decode b_X_greatestPriority 47 = .ok (.getfield 107, 3) := by decide +kernel
theorem d_X_greatestPriority_50 : decode b_X_greatestPriority 50 = .ok (.istore_n 2, 1) := by decide +kernel
theorem d_X_greatestPriority_51 : decode b_X_greatestPriority 51 = .ok (.iinc 5 1, 3) := by decide +kernel
theorem d_X_greatestPriority_54 : decode b_X_greatestPriority 54 = .ok (.goto (-40), 3) := by decide +kernel
theorem d_X_greatestPriority_57 : decode b_X_greatestPriority 57 = .ok (.iload_n 2, 1) := by decide +kernel
theorem d_X_greatestPriority_58 : decode b_X_greatestPriority 58 = .ok (.ireturn, 1) := by decide +kernel
theorem d_X_giveToPriority_0 : decode b_X_giveToPriority 0 = .ok (.aload_n 0, 1) := by decide +kernel
theorem d_X_giveToPriority_1 : decode b_X_giveToPriority 1 = .ok (.getfield 25, 3) := by decide +kernel
theorem d_X_giveToPriority_4 : decode b_X_giveToPriority 4 = .ok (.astore_n 3, 1) := by decide +kernel
theorem d_X_giveToPriority_5 : decode b_X_giveToPriority 5 = .ok (.aload_n 3, 1) := by decide +kernel
theorem d_X_giveToPriority_6 : decode b_X_giveToPriority 6 = .ok (.arraylength, 1) := by decide +kernel
theorem d_X_giveToPriority_7 : decode b_X_giveToPriority 7 = .ok (.istore 4, 2) := by decide +kernel
theorem d_X_giveToPriority_9 : decode b_X_giveToPriority 9 = .ok (.iconst 0, 1) := by decide +kernel
theorem d_X_giveToPriority_10 : decode b_X_giveToPriority 10 = .ok (.istore 5, 2) := by decide +kernel
theorem d_X_giveToPriority_12 : decode b_X_giveToPriority 12 = .ok (.iload 5, 2) := by decide +kernel
theorem d_X_giveToPriority_14 : decode b_X_giveToPriority 14 = .ok (.iload 4, 2) := by decide +kernel
theorem d_X_giveToPriority_16 : decode b_X_giveToPriority 16 = .ok (.if_icmp .ge 45, 3) := by decide +kernel
theorem d_X_giveToPriority_19 : decode b_X_giveToPriority 19 = .ok (.aload_n 3, 1) := by decide +kernel
theorem d_X_giveToPriority_20 : decode b_X_giveToPriority 20 = .ok (.iload 5, 2) := by decide +kernel
theorem d_X_giveToPriority_22 : decode b_X_giveToPriority 22 = .ok (.aaload, 1) := by decide +kernel
theorem d_X_giveToPriority_23 : decode b_X_giveToPriority 23 = .ok (.astore 6, 2) := by decide +kernel
theorem d_X_giveToPriority_25 : decode b_X_giveToPriority 25 = .ok (.aload 6, 2) := by decide +kernel
theorem d_X_giveToPriority_27 : decode b_X_giveToPriority 27 = .ok (.aload_n 1, 1) := by decide +kernel
theorem d_X_giveToPriority_28 : decode b_X_giveToPriority 28 = .ok (.getfield 205, 3) := by decide +kernel
theorem d_X_giveToPriority_31 : decode b_X_giveToPriority 31 = .ok (.invokevirtual 185, 3) := by decide +kernel
theorem d_X_giveToPriority_34 : decode b_X_giveToPriority 34 = .ok (.ifCond .eq 21, 3) := by decide +kernel
theorem d_X_giveToPriority_37 : decode b_X_giveToPriority 37 = .ok (.aload 6, 2) := by decide +kernel
theorem d_X_giveToPriority_39 : decode b_X_giveToPriority 39 = .ok (.getfield 107, 3) := by decide +kernel
theorem d_X_giveToPriority_42 : decode b_X_giveToPriority 42 = .ok (.iload_n 2, 1) := by decide +kernel
theorem d_X_giveToPriority_43 : decode b_X_giveToPriority 43 = .ok (.if_icmp .ne 12, 3) := by decide +kernel
theorem d_X_giveToPriority_46 : decode b_X_giveToPriority 46 = .ok (.aload 6, 2) := by decide +kernel
theorem d_X_giveToPriority_48 : decode b_X_giveToPriority 48 = .ok (.getfield 74, 3) := by decide +kernel
theorem d_X_giveToPriority_51 : decode b_X_giveToPriority 51 = .ok (.aload_n 1, 1) := by decide +kernel
theorem d_X_giveToPriority_52 : decode b_X_giveToPriority 52 = .ok (.invokevirtual 195, 3) := by decide +kernel
theorem d_X_giveToPriority_55 : decode b_X_giveToPriority 55 = .ok (.iinc 5 1, 3) := by decide +kernel
theorem d_X_giveToPriority_58 : decode b_X_giveToPriority 58 = .ok (.goto (-46), 3) := by decide +kernel
theorem d_X_giveToPriority_61 : decode b_X_giveToPriority 61 = .ok (.return_, 1) := by decide +kernel
theorem d_X_askArrives_0 : decode b_X_askArrives 0 = .ok (.aload_n 0, 1) := by decide +kernel
theorem d_X_askArrives_1 : decode b_X_askArrives 1 = .ok (.getfield 16, 3) := by decide +kernel
theorem d_X_askArrives_4 : decode b_X_askArrives 4 = .ok (.aload_n 1, 1) := by decide +kernel
theorem d_X_askArrives_5 : decode b_X_askArrives 5 = .ok (.getfield 205, 3) := by decide +kernel
theorem d_X_askArrives_8 : decode b_X_askArrives 8 = .ok (.aaload, 1) := by decide +kernel
theorem d_X_askArrives_9 : decode b_X_askArrives 9 = .ok (.astore_n 2, 1) := by decide +kernel
theorem d_X_askArrives_10 : decode b_X_askArrives 10 = .ok (.aload_n 2, 1) := by decide +kernel
theorem d_X_askArrives_11 : decode b_X_askArrives 11 = .ok (.aload_n 1, 1) := by decide +kernel
theorem d_X_askArrives_12 : decode b_X_askArrives 12 = .ok (.getfield 151, 3) := by decide +kernel
theorem d_X_askArrives_15 : decode b_X_askArrives 15 = .ok (.iconst 2, 1) := by decide +kernel
theorem d_X_askArrives_16 : decode b_X_askArrives 16 = .ok (.invokevirtual 126, 3) := by decide +kernel
theorem d_X_askArrives_19 : decode b_X_askArrives 19 = .ok (.ifCond .eq 29, 3) := by decide +kernel
theorem d_X_askArrives_22 : decode b_X_askArrives 22 = .ok (.aload_n 0, 1) := by decide +kernel
theorem d_X_askArrives_23 : decode b_X_askArrives 23 = .ok (.new 7, 3) := by decide +kernel
theorem d_X_askArrives_26 : decode b_X_askArrives 26 = .ok (.dup, 1) := by decide +kernel
theorem d_X_askArrives_27 : decode b_X_askArrives 27 = .ok (.iconst 5, 1) := by decide +kernel
theorem d_X_askArrives_28 : decode b_X_askArrives 28 = .ok (.aload_n 1, 1) := by decide +kernel
theorem d_X_askArrives_29 : decode b_X_askArrives 29 = .ok (.getfield 205, 3) := by decide +kernel
theorem d_X_askArrives_32 : decode b_X_askArrives 32 = .ok (.iconst (-1), 1) := by decide +kernel
theorem d_X_askArrives_33 : decode b_X_askArrives 33 = .ok (.iconst 0, 1) := by decide +kernel
theorem d_X_askArrives_34 : decode b_X_askArrives 34 = .ok (.aload_n 1, 1) := by decide +kernel
theorem d_X_askArrives_35 : decode b_X_askArrives 35 = .ok (.getfield 151, 3) := by decide +kernel
theorem d_X_askArrives_38 : decode b_X_askArrives 38 = .ok (.iconst (-1), 1) := by decide +kernel
theorem d_X_askArrives_39 : decode b_X_askArrives 39 = .ok (.invokespecial 11, 3) := by decide +kernel
theorem d_X_askArrives_42 : decode b_X_askArrives 42 = .ok (.invokevirtual 224, 3) := by decide +kernel
theorem d_X_askArrives_45 : decode b_X_askArrives 45 = .ok (.goto 25, 3) := by decide +kernel
theorem d_X_askArrives_48 : decode b_X_askArrives 48 = .ok (.aload_n 2, 1) := by decide +kernel
theorem d_X_askArrives_49 : decode b_X_askArrives 49 = .ok (.getfield 59, 3) := by decide +kernel
theorem d_X_askArrives_52 : decode b_X_askArrives 52 = .ok (.ifCond .eq 18, 3) := by decide +kernel
theorem d_X_askArrives_55 : decode b_X_askArrives 55 = .ok (.aload_n 2, 1) := by decide +kernel
theorem d_X_askArrives_56 : decode b_X_askArrives 56 = .ok (.aload_n 1, 1) := by decide +kernel
theorem d_X_askArrives_57 : decode b_X_askArrives 57 = .ok (.getfield 151, 3) := by decide +kernel
theorem d_X_askArrives_60 : decode b_X_askArrives 60 = .ok (.bipush 8, 2) := by decide +kernel
theorem d_X_askArrives_62 : decode b_X_askArrives 62 = .ok (.invokevirtual 198, 3) := by decide +kernel
theorem d_X_askArrives_65 : decode b_X_askArrives 65 = .ok (.aload_n 0, 1) := by decide +kernel
theorem d_X_askArrives_66 : decode b_X_askArrives 66 = .ok (.aload_n 1, 1) := by decide +kernel
theorem d_X_askArrives_67 : decode b_X_askArrives 67 = .ok (.invokevirtual 215, 3) := by decide +kernel
theorem d_X_askArrives_70 : decode b_X_askArrives 70 = .ok (.return_, 1) := by decide +kernel
theorem d_X_grantArrives_0 : decode b_X_grantArrives 0 = .ok (.aload_n 0, 1) := by decide +kernel
theorem d_X_grantArrives_1 : decode b_X_grantArrives 1 = .ok (.getfield 16, 3) := by decide +kernel
theorem d_X_grantArrives_4 : decode b_X_grantArrives 4 = .ok (.aload_n 1, 1) := by decide +kernel
theorem d_X_grantArrives_5 : decode b_X_grantArrives 5 = .ok (.getfield 205, 3) := by decide +kernel
theorem d_X_grantArrives_8 : decode b_X_grantArrives 8 = .ok (.aaload, 1) := by decide +kernel
theorem d_X_grantArrives_9 : decode b_X_grantArrives 9 = .ok (.astore_n 2, 1) := by decide +kernel
theorem d_X_grantArrives_10 : decode b_X_grantArrives 10 = .ok (.aload_n 2, 1) := by decide +kernel
theorem d_X_grantArrives_11 : decode b_X_grantArrives 11 = .ok (.aload_n 1, 1) := by decide +kernel
theorem d_X_grantArrives_12 : decode b_X_grantArrives 12 = .ok (.getfield 151, 3) := by decide +kernel
theorem d_X_grantArrives_15 : decode b_X_grantArrives 15 = .ok (.iconst 4, 1) := by decide +kernel
theorem d_X_grantArrives_16 : decode b_X_grantArrives 16 = .ok (.invokevirtual 126, 3) := by decide +kernel
theorem d_X_grantArrives_19 : decode b_X_grantArrives 19 = .ok (.ifCond .eq 26, 3) := by decide +kernel
theorem d_X_grantArrives_22 : decode b_X_grantArrives 22 = .ok (.aload_n 2, 1) := by decide +kernel
theorem d_X_grantArrives_23 : decode b_X_grantArrives 23 = .ok (.aload_n 1, 1) := by decide +kernel
theorem d_X_grantArrives_24 : decode b_X_grantArrives 24 = .ok (.getfield 151, 3) := by decide +kernel
theorem d_X_grantArrives_27 : decode b_X_grantArrives 27 = .ok (.iconst 1, 1) := by decide +kernel
theorem d_X_grantArrives_28 : decode b_X_grantArrives 28 = .ok (.invokevirtual 198, 3) := by decide +kernel
theorem d_X_grantArrives_31 : decode b_X_grantArrives 31 = .ok (.aload_n 2, 1) := by decide +kernel
theorem d_X_grantArrives_32 : decode b_X_grantArrives 32 = .ok (.aload_n 1, 1) := by decide +kernel
theorem d_X_grantArrives_33 : decode b_X_grantArrives 33 = .ok (.getfield 151, 3) := by decide +kernel
theorem d_X_grantArrives_36 : decode b_X_grantArrives 36 = .ok (.iconst 4, 1) := by decide +kernel
theorem d_X_grantArrives_37 : decode b_X_grantArrives 37 = .ok (.invokevirtual 202, 3) := by decide +kernel
theorem d_X_grantArrives_40 : decode b_X_grantArrives 40 = .ok (.aload_n 0, 1) := by decide +kernel
theorem d_X_grantArrives_41 : decode b_X_grantArrives 41 = .ok (.aload_n 1, 1) := by decide +kernel
theorem d_X_grantArrives_42 : decode b_X_grantArrives 42 = .ok (.invokevirtual 215, 3) := by decide +kernel
theorem d_X_grantArrives_45 : decode b_X_grantArrives 45 = .ok (.return_, 1) := by decide +kernel
theorem d_X_endingArrives_0 : decode b_X_endingArrives 0 = .ok (.aload_n 0, 1) := by decide +kernel
theorem d_X_endingArrives_1 : decode b_X_endingArrives 1 = .ok (.getfield 16, 3) := by decide +kernel
theorem d_X_endingArrives_4 : decode b_X_endingArrives 4 = .ok (.aload_n 1, 1) := by decide +kernel
theorem d_X_endingArrives_5 : decode b_X_endingArrives 5 = .ok (.getfield 205, 3) := by decide +kernel
theorem d_X_endingArrives_8 : decode b_X_endingArrives 8 = .ok (.aaload, 1) := by decide +kernel
theorem d_X_endingArrives_9 : decode b_X_endingArrives 9 = .ok (.astore_n 3, 1) := by decide +kernel
theorem d_X_endingArrives_10 : decode b_X_endingArrives 10 = .ok (.aload_n 3, 1) := by decide +kernel
theorem d_X_endingArrives_11 : decode b_X_endingArrives 11 = .ok (.aload_n 1, 1) := by decide +kernel
theorem d_X_endingArrives_12 : decode b_X_endingArrives 12 = .ok (.getfield 151, 3) := by decide +kernel
theorem d_X_endingArrives_15 : decode b_X_endingArrives 15 = .ok (.iload_n 2, 1) := by decide +kernel
theorem d_X_endingArrives_16 : decode b_X_endingArrives 16 = .ok (.invokevirtual 126, 3) := by decide +kernel
theorem d_X_endingArrives_19 : decode b_X_endingArrives 19 = .ok (.ifCond .eq 17, 3) := by decide +kernel
theorem d_X_endingArrives_22 : decode b_X_endingArrives 22 = .ok (.aload_n 3, 1) := by decide +kernel
theorem d_X_endingArrives_23 : decode b_X_endingArrives 23 = .ok (.aload_n 1, 1) := by decide +kernel
theorem d_X_endingArrives_24 : decode b_X_endingArrives 24 = .ok (.getfield 151, 3) := by decide +kernel
theorem d_X_endingArrives_27 : decode b_X_endingArrives 27 = .ok (.iload_n 2, 1) := by decide +kernel
theorem d_X_endingArrives_28 : decode b_X_endingArrives 28 = .ok (.invokevirtual 202, 3) := by decide +kernel
theorem d_X_endingArrives_31 : decode b_X_endingArrives 31 = .ok (.aload_n 0, 1) := by decide +kernel
theorem d_X_endingArrives_32 : decode b_X_endingArrives 32 = .ok (.aload_n 1, 1) := by decide +kernel
theorem d_X_endingArrives_33 : decode b_X_endingArrives 33 = .ok (.invokevirtual 215, 3) := by decide +kernel
theorem d_X_endingArrives_36 : decode b_X_endingArrives 36 = .ok (.return_, 1) := by decide +kernel
theorem d_X_keptForAll_0 : decode b_X_keptForAll 0 = .ok (.iconst 0, 1) := by decide +kernel
theorem d_X_keptForAll_1 : decode b_X_keptForAll 1 = .ok (.istore_n 1, 1) := by decide +kernel
theorem d_X_keptForAll_2 : decode b_X_keptForAll 2 = .ok (.aload_n 0, 1) := by decide +kernel
theorem d_X_keptForAll_3 : decode b_X_keptForAll 3 = .ok (.getfield 16, 3) := by decide +kernel
theorem d_X_keptForAll_6 : decode b_X_keptForAll 6 = .ok (.astore_n 2, 1) := by decide +kernel
theorem d_X_keptForAll_7 : decode b_X_keptForAll 7 = .ok (.aload_n 2, 1) := by decide +kernel
theorem d_X_keptForAll_8 : decode b_X_keptForAll 8 = .ok (.arraylength, 1) := by decide +kernel
theorem d_X_keptForAll_9 : decode b_X_keptForAll 9 = .ok (.istore_n 3, 1) := by decide +kernel
theorem d_X_keptForAll_10 : decode b_X_keptForAll 10 = .ok (.iconst 0, 1) := by decide +kernel
theorem d_X_keptForAll_11 : decode b_X_keptForAll 11 = .ok (.istore 4, 2) := by decide +kernel
theorem d_X_keptForAll_13 : decode b_X_keptForAll 13 = .ok (.iload 4, 2) := by decide +kernel
theorem d_X_keptForAll_15 : decode b_X_keptForAll 15 = .ok (.iload_n 3, 1) := by decide +kernel
theorem d_X_keptForAll_16 : decode b_X_keptForAll 16 = .ok (.if_icmp .ge 26, 3) := by decide +kernel
theorem d_X_keptForAll_19 : decode b_X_keptForAll 19 = .ok (.aload_n 2, 1) := by decide +kernel
theorem d_X_keptForAll_20 : decode b_X_keptForAll 20 = .ok (.iload 4, 2) := by decide +kernel
theorem d_X_keptForAll_22 : decode b_X_keptForAll 22 = .ok (.aaload, 1) := by decide +kernel
theorem d_X_keptForAll_23 : decode b_X_keptForAll 23 = .ok (.astore 5, 2) := by decide +kernel
theorem d_X_keptForAll_25 : decode b_X_keptForAll 25 = .ok (.iload_n 1, 1) := by decide +kernel
theorem d_X_keptForAll_26 : decode b_X_keptForAll 26 = .ok (.aload 5, 2) := by decide +kernel
theorem d_X_keptForAll_28 : decode b_X_keptForAll 28 = .ok (.getfield 172, 3) := by decide +kernel
theorem d_X_keptForAll_31 : decode b_X_keptForAll 31 = .ok (.getfield 120, 3) := by decide +kernel
theorem d_X_keptForAll_34 : decode b_X_keptForAll 34 = .ok (.iadd, 1) := by decide +kernel
theorem d_X_keptForAll_35 : decode b_X_keptForAll 35 = .ok (.istore_n 1, 1) := by decide +kernel
theorem d_X_keptForAll_36 : decode b_X_keptForAll 36 = .ok (.iinc 4 1, 3) := by decide +kernel
theorem d_X_keptForAll_39 : decode b_X_keptForAll 39 = .ok (.goto (-26), 3) := by decide +kernel
theorem d_X_keptForAll_42 : decode b_X_keptForAll 42 = .ok (.iload_n 1, 1) := by decide +kernel
theorem d_X_keptForAll_43 : decode b_X_keptForAll 43 = .ok (.ireturn, 1) := by decide +kernel
theorem d_X_lostByAll_0 : decode b_X_lostByAll 0 = .ok (.iconst 0, 1) := by decide +kernel
theorem d_X_lostByAll_1 : decode b_X_lostByAll 1 = .ok (.istore_n 1, 1) := by decide +kernel
theorem d_X_lostByAll_2 : decode b_X_lostByAll 2 = .ok (.aload_n 0, 1) := by decide +kernel
theorem d_X_lostByAll_3 : decode b_X_lostByAll 3 = .ok (.getfield 25, 3) := by decide +kernel
theorem d_X_lostByAll_6 : decode b_X_lostByAll 6 = .ok (.astore_n 2, 1) := by decide +kernel
theorem d_X_lostByAll_7 : decode b_X_lostByAll 7 = .ok (.aload_n 2, 1) := by decide +kernel
theorem d_X_lostByAll_8 : decode b_X_lostByAll 8 = .ok (.arraylength, 1) := by decide +kernel
theorem d_X_lostByAll_9 : decode b_X_lostByAll 9 = .ok (.istore_n 3, 1) := by decide +kernel
theorem d_X_lostByAll_10 : decode b_X_lostByAll 10 = .ok (.iconst 0, 1) := by decide +kernel
theorem d_X_lostByAll_11 : decode b_X_lostByAll 11 = .ok (.istore 4, 2) := by decide +kernel
theorem d_X_lostByAll_13 : decode b_X_lostByAll 13 = .ok (.iload 4, 2) := by decide +kernel
theorem d_X_lostByAll_15 : decode b_X_lostByAll 15 = .ok (.iload_n 3, 1) := by decide +kernel
theorem d_X_lostByAll_16 : decode b_X_lostByAll 16 = .ok (.if_icmp .ge 26, 3) := by decide +kernel
theorem d_X_lostByAll_19 : decode b_X_lostByAll 19 = .ok (.aload_n 2, 1) := by decide +kernel
theorem d_X_lostByAll_20 : decode b_X_lostByAll 20 = .ok (.iload 4, 2) := by decide +kernel
theorem d_X_lostByAll_22 : decode b_X_lostByAll 22 = .ok (.aaload, 1) := by decide +kernel
theorem d_X_lostByAll_23 : decode b_X_lostByAll 23 = .ok (.astore 5, 2) := by decide +kernel
theorem d_X_lostByAll_25 : decode b_X_lostByAll 25 = .ok (.iload_n 1, 1) := by decide +kernel
theorem d_X_lostByAll_26 : decode b_X_lostByAll 26 = .ok (.aload 5, 2) := by decide +kernel
theorem d_X_lostByAll_28 : decode b_X_lostByAll 28 = .ok (.getfield 74, 3) := by decide +kernel
theorem d_X_lostByAll_31 : decode b_X_lostByAll 31 = .ok (.getfield 241, 3) := by decide +kernel
theorem d_X_lostByAll_34 : decode b_X_lostByAll 34 = .ok (.iadd, 1) := by decide +kernel
theorem d_X_lostByAll_35 : decode b_X_lostByAll 35 = .ok (.istore_n 1, 1) := by decide +kernel
theorem d_X_lostByAll_36 : decode b_X_lostByAll 36 = .ok (.iinc 4 1, 3) := by decide +kernel
theorem d_X_lostByAll_39 : decode b_X_lostByAll 39 = .ok (.goto (-26), 3) := by decide +kernel
theorem d_X_lostByAll_42 : decode b_X_lostByAll 42 = .ok (.iload_n 1, 1) := by decide +kernel
theorem d_X_lostByAll_43 : decode b_X_lostByAll 43 = .ok (.ireturn, 1) := by decide +kernel
theorem d_A_init_0 : decode b_A_init 0 = .ok (.aload_n 0, 1) := by decide +kernel
theorem d_A_init_1 : decode b_A_init 1 = .ok (.invokespecial 3, 3) := by decide +kernel
theorem d_A_init_4 : decode b_A_init 4 = .ok (.aload_n 0, 1) := by decide +kernel
theorem d_A_init_5 : decode b_A_init 5 = .ok (.bipush 8, 2) := by decide +kernel
theorem d_A_init_7 : decode b_A_init 7 = .ok (.newarray .int, 2) := by decide +kernel
theorem d_A_init_9 : decode b_A_init 9 = .ok (.putfield 9, 3) := by decide +kernel
theorem d_A_init_12 : decode b_A_init 12 = .ok (.aload_n 0, 1) := by decide +kernel
theorem d_A_init_13 : decode b_A_init 13 = .ok (.new 15, 3) := by decide +kernel
theorem d_A_init_16 : decode b_A_init 16 = .ok (.dup, 1) := by decide +kernel
theorem d_A_init_17 : decode b_A_init 17 = .ok (.iconst 4, 1) := by decide +kernel
theorem d_A_init_18 : decode b_A_init 18 = .ok (.aload_n 1, 1) := by decide +kernel
theorem d_A_init_19 : decode b_A_init 19 = .ok (.invokespecial 17, 3) := by decide +kernel
theorem d_A_init_22 : decode b_A_init 22 = .ok (.putfield 20, 3) := by decide +kernel
theorem d_A_init_25 : decode b_A_init 25 = .ok (.aload_n 0, 1) := by decide +kernel
theorem d_A_init_26 : decode b_A_init 26 = .ok (.iconst 0, 1) := by decide +kernel
theorem d_A_init_27 : decode b_A_init 27 = .ok (.putfield 24, 3) := by decide +kernel
theorem d_A_init_30 : decode b_A_init 30 = .ok (.aload_n 0, 1) := by decide +kernel
theorem d_A_init_31 : decode b_A_init 31 = .ok (.iconst 0, 1) := by decide +kernel
theorem d_A_init_32 : decode b_A_init 32 = .ok (.putfield 28, 3) := by decide +kernel
theorem d_A_init_35 : decode b_A_init 35 = .ok (.return_, 1) := by decide +kernel
theorem d_A_hasAny_0 : decode b_A_hasAny 0 = .ok (.aload_n 0, 1) := by decide +kernel
theorem d_A_hasAny_1 : decode b_A_hasAny 1 = .ok (.getfield 9, 3) := by decide +kernel
theorem d_A_hasAny_4 : decode b_A_hasAny 4 = .ok (.iload_n 1, 1) := by decide +kernel
theorem d_A_hasAny_5 : decode b_A_hasAny 5 = .ok (.iaload, 1) := by decide +kernel
theorem d_A_hasAny_6 : decode b_A_hasAny 6 = .ok (.iload_n 2, 1) := by decide +kernel
theorem d_A_hasAny_7 : decode b_A_hasAny 7 = .ok (.iand, 1) := by decide +kernel
theorem d_A_hasAny_8 : decode b_A_hasAny 8 = .ok (.ifCond .eq 7, 3) := by decide +kernel
theorem d_A_hasAny_11 : decode b_A_hasAny 11 = .ok (.iconst 1, 1) := by decide +kernel
theorem d_A_hasAny_12 : decode b_A_hasAny 12 = .ok (.goto 4, 3) := by decide +kernel
theorem d_A_hasAny_15 : decode b_A_hasAny 15 = .ok (.iconst 0, 1) := by decide +kernel
theorem d_A_hasAny_16 : decode b_A_hasAny 16 = .ok (.ireturn, 1) := by decide +kernel
theorem d_A_addMark_0 : decode b_A_addMark 0 = .ok (.aload_n 0, 1) := by decide +kernel
theorem d_A_addMark_1 : decode b_A_addMark 1 = .ok (.getfield 9, 3) := by decide +kernel
theorem d_A_addMark_4 : decode b_A_addMark 4 = .ok (.iload_n 1, 1) := by decide +kernel
theorem d_A_addMark_5 : decode b_A_addMark 5 = .ok (.dup2, 1) := by decide +kernel
theorem d_A_addMark_6 : decode b_A_addMark 6 = .ok (.iaload, 1) := by decide +kernel
theorem d_A_addMark_7 : decode b_A_addMark 7 = .ok (.iload_n 2, 1) := by decide +kernel
theorem d_A_addMark_8 : decode b_A_addMark 8 = .ok (.ior, 1) := by decide +kernel
theorem d_A_addMark_9 : decode b_A_addMark 9 = .ok (.iastore, 1) := by decide +kernel
theorem d_A_addMark_10 : decode b_A_addMark 10 = .ok (.return_, 1) := by decide +kernel
theorem d_A_dropMarks_0 : decode b_A_dropMarks 0 = .ok (.aload_n 0, 1) := by decide +kernel
theorem d_A_dropMarks_1 : decode b_A_dropMarks 1 = .ok (.getfield 9, 3) := by decide +kernel
theorem d_A_dropMarks_4 : decode b_A_dropMarks 4 = .ok (.iload_n 1, 1) := by decide +kernel
theorem d_A_dropMarks_5 : decode b_A_dropMarks 5 = .ok (.dup2, 1) := by decide +kernel
theorem d_A_dropMarks_6 : decode b_A_dropMarks 6 = .ok (.iaload, 1) := by decide +kernel
theorem d_A_dropMarks_7 : decode b_A_dropMarks 7 = .ok (.iload_n 2, 1) := by decide +kernel
theorem d_A_dropMarks_8 : decode b_A_dropMarks 8 = .ok (.iconst (-1), 1) := by decide +kernel
theorem d_A_dropMarks_9 : decode b_A_dropMarks 9 = .ok (.ixor, 1) := by decide +kernel
theorem d_A_dropMarks_10 : decode b_A_dropMarks 10 = .ok (.iand, 1) := by decide +kernel
theorem d_A_dropMarks_11 : decode b_A_dropMarks 11 = .ok (.iastore, 1) := by decide +kernel
theorem d_A_dropMarks_12 : decode b_A_dropMarks 12 = .ok (.return_, 1) := by decide +kernel
theorem d_C_init_0 : decode b_C_init 0 = .ok (.aload_n 0, 1) := by decide +kernel
theorem d_C_init_1 : decode b_C_init 1 = .ok (.invokespecial 3, 3) := by decide +kernel
theorem d_C_init_4 : decode b_C_init 4 = .ok (.aload_n 0, 1) := by decide +kernel
theorem d_C_init_5 : decode b_C_init 5 = .ok (.new 9, 3) := by decide +kernel
theorem d_C_init_8 : decode b_C_init 8 = .ok (.dup, 1) := by decide +kernel
theorem d_C_init_9 : decode b_C_init 9 = .ok (.bipush 10, 2) := by decide +kernel
theorem d_C_init_11 : decode b_C_init 11 = .ok (.aload_n 1, 1) := by decide +kernel
theorem d_C_init_12 : decode b_C_init 12 = .ok (.invokespecial 11, 3) := by decide +kernel
theorem d_C_init_15 : decode b_C_init 15 = .ok (.putfield 14, 3) := by decide +kernel
theorem d_C_init_18 : decode b_C_init 18 = .ok (.aload_n 0, 1) := by decide +kernel
theorem d_C_init_19 : decode b_C_init 19 = .ok (.iconst 0, 1) := by decide +kernel
theorem d_C_init_20 : decode b_C_init 20 = .ok (.putfield 20, 3) := by decide +kernel
theorem d_C_init_23 : decode b_C_init 23 = .ok (.aload_n 0, 1) := by decide +kernel
theorem d_C_init_24 : decode b_C_init 24 = .ok (.iconst (-1), 1) := by decide +kernel
theorem d_C_init_25 : decode b_C_init 25 = .ok (.putfield 24, 3) := by decide +kernel
theorem d_C_init_28 : decode b_C_init 28 = .ok (.aload_n 0, 1) := by decide +kernel
theorem d_C_init_29 : decode b_C_init 29 = .ok (.iconst (-1), 1) := by decide +kernel
theorem d_C_init_30 : decode b_C_init 30 = .ok (.putfield 27, 3) := by decide +kernel
theorem d_C_init_33 : decode b_C_init 33 = .ok (.aload_n 0, 1) := by decide +kernel
theorem d_C_init_34 : decode b_C_init 34 = .ok (.iconst 0, 1) := by decide +kernel
theorem d_C_init_35 : decode b_C_init 35 = .ok (.putfield 30, 3) := by decide +kernel
theorem d_C_init_38 : decode b_C_init 38 = .ok (.aload_n 0, 1) := by decide +kernel
theorem d_C_init_39 : decode b_C_init 39 = .ok (.iconst 0, 1) := by decide +kernel
theorem d_C_init_40 : decode b_C_init 40 = .ok (.putfield 33, 3) := by decide +kernel
theorem d_C_init_43 : decode b_C_init 43 = .ok (.aload_n 0, 1) := by decide +kernel
theorem d_C_init_44 : decode b_C_init 44 = .ok (.iconst 0, 1) := by decide +kernel
theorem d_C_init_45 : decode b_C_init 45 = .ok (.putfield 36, 3) := by decide +kernel
theorem d_C_init_48 : decode b_C_init 48 = .ok (.return_, 1) := by decide +kernel
theorem d_C_isAvailableFor_0 : decode b_C_isAvailableFor 0 = .ok (.aload_n 0, 1) := by decide +kernel
theorem d_C_isAvailableFor_1 : decode b_C_isAvailableFor 1 = .ok (.getfield 36, 3) := by decide +kernel
theorem d_C_isAvailableFor_4 : decode b_C_isAvailableFor 4 = .ok (.ifCond .eq 15, 3) := by decide +kernel
theorem d_C_isAvailableFor_7 : decode b_C_isAvailableFor 7 = .ok (.aload_n 0, 1) := by decide +kernel
theorem d_C_isAvailableFor_8 : decode b_C_isAvailableFor 8 = .ok (.getfield 24, 3) := by decide +kernel
theorem d_C_isAvailableFor_11 : decode b_C_isAvailableFor 11 = .ok (.iload_n 1, 1) := by decide +kernel
theorem d_C_isAvailableFor_12 : decode b_C_isAvailableFor 12 = .ok (.if_icmp .ne 7, 3) := by decide +kernel
theorem d_C_isAvailableFor_15 : decode b_C_isAvailableFor 15 = .ok (.iconst 1, 1) := by decide +kernel
theorem d_C_isAvailableFor_16 : decode b_C_isAvailableFor 16 = .ok (.goto 4, 3) := by decide +kernel
theorem d_C_isAvailableFor_19 : decode b_C_isAvailableFor 19 = .ok (.iconst 0, 1) := by decide +kernel
theorem d_C_isAvailableFor_20 : decode b_C_isAvailableFor 20 = .ok (.ireturn, 1) := by decide +kernel
theorem d_Z_init_0 : decode b_Z_init 0 = .ok (.aload_n 0, 1) := by decide +kernel
theorem d_Z_init_1 : decode b_Z_init 1 = .ok (.invokespecial 1, 3) := by decide +kernel
theorem d_Z_init_4 : decode b_Z_init 4 = .ok (.aload_n 0, 1) := by decide +kernel
theorem d_Z_init_5 : decode b_Z_init 5 = .ok (.iload_n 1, 1) := by decide +kernel
theorem d_Z_init_6 : decode b_Z_init 6 = .ok (.putfield 7, 3) := by decide +kernel
theorem d_Z_init_9 : decode b_Z_init 9 = .ok (.aload_n 0, 1) := by decide +kernel
theorem d_Z_init_10 : decode b_Z_init 10 = .ok (.iload_n 2, 1) := by decide +kernel
theorem d_Z_init_11 : decode b_Z_init 11 = .ok (.putfield 13, 3) := by decide +kernel
theorem d_Z_init_14 : decode b_Z_init 14 = .ok (.aload_n 0, 1) := by decide +kernel
theorem d_Z_init_15 : decode b_Z_init 15 = .ok (.iload_n 3, 1) := by decide +kernel
theorem d_Z_init_16 : decode b_Z_init 16 = .ok (.putfield 16, 3) := by decide +kernel
theorem d_Z_init_19 : decode b_Z_init 19 = .ok (.aload_n 0, 1) := by decide +kernel
theorem d_Z_init_20 : decode b_Z_init 20 = .ok (.iload 4, 2) := by decide +kernel
theorem d_Z_init_22 : decode b_Z_init 22 = .ok (.putfield 19, 3) := by decide +kernel
theorem d_Z_init_25 : decode b_Z_init 25 = .ok (.aload_n 0, 1) := by decide +kernel
theorem d_Z_init_26 : decode b_Z_init 26 = .ok (.iload 5, 2) := by decide +kernel
theorem d_Z_init_28 : decode b_Z_init 28 = .ok (.putfield 22, 3) := by decide +kernel
theorem d_Z_init_31 : decode b_Z_init 31 = .ok (.aload_n 0, 1) := by decide +kernel
theorem d_Z_init_32 : decode b_Z_init 32 = .ok (.iload 6, 2) := by decide +kernel
theorem d_Z_init_34 : decode b_Z_init 34 = .ok (.putfield 25, 3) := by decide +kernel
theorem d_Z_init_37 : decode b_Z_init 37 = .ok (.return_, 1) := by decide +kernel
theorem d_Q_init_0 : decode b_Q_init 0 = .ok (.aload_n 0, 1) := by decide +kernel
theorem d_Q_init_1 : decode b_Q_init 1 = .ok (.invokespecial 1, 3) := by decide +kernel
theorem d_Q_init_4 : decode b_Q_init 4 = .ok (.aload_n 0, 1) := by decide +kernel
theorem d_Q_init_5 : decode b_Q_init 5 = .ok (.iload_n 1, 1) := by decide +kernel
theorem d_Q_init_6 : decode b_Q_init 6 = .ok (.anewarray 7, 3) := by decide +kernel
theorem d_Q_init_9 : decode b_Q_init 9 = .ok (.putfield 9, 3) := by decide +kernel
theorem d_Q_init_12 : decode b_Q_init 12 = .ok (.iconst 0, 1) := by decide +kernel
theorem d_Q_init_13 : decode b_Q_init 13 = .ok (.istore_n 3, 1) := by decide +kernel
theorem d_Q_init_14 : decode b_Q_init 14 = .ok (.iload_n 3, 1) := by decide +kernel
theorem d_Q_init_15 : decode b_Q_init 15 = .ok (.iload_n 1, 1) := by decide +kernel
theorem d_Q_init_16 : decode b_Q_init 16 = .ok (.if_icmp .ge 16, 3) := by decide +kernel
theorem d_Q_init_19 : decode b_Q_init 19 = .ok (.aload_n 0, 1) := by decide +kernel
theorem d_Q_init_20 : decode b_Q_init 20 = .ok (.getfield 9, 3) := by decide +kernel
theorem d_Q_init_23 : decode b_Q_init 23 = .ok (.iload_n 3, 1) := by decide +kernel
theorem d_Q_init_24 : decode b_Q_init 24 = .ok (.aload_n 2, 1) := by decide +kernel
theorem d_Q_init_25 : decode b_Q_init 25 = .ok (.aastore, 1) := by decide +kernel
theorem d_Q_init_26 : decode b_Q_init 26 = .ok (.iinc 3 1, 3) := by decide +kernel
theorem d_Q_init_29 : decode b_Q_init 29 = .ok (.goto (-15), 3) := by decide +kernel
theorem d_Q_init_32 : decode b_Q_init 32 = .ok (.aload_n 0, 1) := by decide +kernel
theorem d_Q_init_33 : decode b_Q_init 33 = .ok (.iconst 0, 1) := by decide +kernel
theorem d_Q_init_34 : decode b_Q_init 34 = .ok (.putfield 15, 3) := by decide +kernel
theorem d_Q_init_37 : decode b_Q_init 37 = .ok (.aload_n 0, 1) := by decide +kernel
theorem d_Q_init_38 : decode b_Q_init 38 = .ok (.iconst 0, 1) := by decide +kernel
theorem d_Q_init_39 : decode b_Q_init 39 = .ok (.putfield 19, 3) := by decide +kernel
theorem d_Q_init_42 : decode b_Q_init 42 = .ok (.return_, 1) := by decide +kernel
theorem d_Q_isFull_0 : decode b_Q_isFull 0 = .ok (.aload_n 0, 1) := by decide +kernel
theorem d_Q_isFull_1 : decode b_Q_isFull 1 = .ok (.getfield 15, 3) := by decide +kernel
theorem d_Q_isFull_4 : decode b_Q_isFull 4 = .ok (.aload_n 0, 1) := by decide +kernel
theorem d_Q_isFull_5 : decode b_Q_isFull 5 = .ok (.getfield 9, 3) := by decide +kernel
theorem d_Q_isFull_8 : decode b_Q_isFull 8 = .ok (.arraylength, 1) := by decide +kernel
theorem d_Q_isFull_9 : decode b_Q_isFull 9 = .ok (.if_icmp .lt 7, 3) := by decide +kernel
theorem d_Q_isFull_12 : decode b_Q_isFull 12 = .ok (.iconst 1, 1) := by decide +kernel
theorem d_Q_isFull_13 : decode b_Q_isFull 13 = .ok (.goto 4, 3) := by decide +kernel
theorem d_Q_isFull_16 : decode b_Q_isFull 16 = .ok (.iconst 0, 1) := by decide +kernel
theorem d_Q_isFull_17 : decode b_Q_isFull 17 = .ok (.ireturn, 1) := by decide +kernel
theorem d_Q_add_0 : decode b_Q_add 0 = .ok (.aload_n 0, 1) := by decide +kernel
theorem d_Q_add_1 : decode b_Q_add 1 = .ok (.getfield 15, 3) := by decide +kernel
theorem d_Q_add_4 : decode b_Q_add 4 = .ok (.aload_n 0, 1) := by decide +kernel
theorem d_Q_add_5 : decode b_Q_add 5 = .ok (.getfield 9, 3) := by decide +kernel
theorem d_Q_add_8 : decode b_Q_add 8 = .ok (.arraylength, 1) := by decide +kernel
theorem d_Q_add_9 : decode b_Q_add 9 = .ok (.if_icmp .ge 26, 3) := by decide +kernel
theorem d_Q_add_12 : decode b_Q_add 12 = .ok (.aload_n 0, 1) := by decide +kernel
theorem d_Q_add_13 : decode b_Q_add 13 = .ok (.getfield 9, 3) := by decide +kernel
theorem d_Q_add_16 : decode b_Q_add 16 = .ok (.aload_n 0, 1) := by decide +kernel
theorem d_Q_add_17 : decode b_Q_add 17 = .ok (.getfield 15, 3) := by decide +kernel
theorem d_Q_add_20 : decode b_Q_add 20 = .ok (.aload_n 1, 1) := by decide +kernel
theorem d_Q_add_21 : decode b_Q_add 21 = .ok (.aastore, 1) := by decide +kernel
theorem d_Q_add_22 : decode b_Q_add 22 = .ok (.aload_n 0, 1) := by decide +kernel
theorem d_Q_add_23 : decode b_Q_add 23 = .ok (.dup, 1) := by decide +kernel
theorem d_Q_add_24 : decode b_Q_add 24 = .ok (.getfield 15, 3) := by decide +kernel
theorem d_Q_add_27 : decode b_Q_add 27 = .ok (.iconst 1, 1) := by decide +kernel
theorem d_Q_add_28 : decode b_Q_add 28 = .ok (.iadd, 1) := by decide +kernel
theorem d_Q_add_29 : decode b_Q_add 29 = .ok (.putfield 15, 3) := by decide +kernel
theorem d_Q_add_32 : decode b_Q_add 32 = .ok (.goto 13, 3) := by decide +kernel
theorem d_Q_add_35 : decode b_Q_add 35 = .ok (.aload_n 0, 1) := by decide +kernel
theorem d_Q_add_36 : decode b_Q_add 36 = .ok (.dup, 1) := by decide +kernel
theorem d_Q_add_37 : decode b_Q_add 37 = .ok (.getfield 19, 3) := by decide +kernel
theorem d_Q_add_40 : decode b_Q_add 40 = .ok (.iconst 1, 1) := by decide +kernel
theorem d_Q_add_41 : decode b_Q_add 41 = .ok (.iadd, 1) := by decide +kernel
theorem d_Q_add_42 : decode b_Q_add 42 = .ok (.putfield 19, 3) := by decide +kernel
theorem d_Q_add_45 : decode b_Q_add 45 = .ok (.return_, 1) := by decide +kernel
theorem d_Q_removeFirst_0 : decode b_Q_removeFirst 0 = .ok (.aload_n 0, 1) := by decide +kernel
theorem d_Q_removeFirst_1 : decode b_Q_removeFirst 1 = .ok (.getfield 9, 3) := by decide +kernel
theorem d_Q_removeFirst_4 : decode b_Q_removeFirst 4 = .ok (.iconst 0, 1) := by decide +kernel
theorem d_Q_removeFirst_5 : decode b_Q_removeFirst 5 = .ok (.aaload, 1) := by decide +kernel
theorem d_Q_removeFirst_6 : decode b_Q_removeFirst 6 = .ok (.astore_n 1, 1) := by decide +kernel
theorem d_Q_removeFirst_7 : decode b_Q_removeFirst 7 = .ok (.iconst 1, 1) := by decide +kernel
theorem d_Q_removeFirst_8 : decode b_Q_removeFirst 8 = .ok (.istore_n 2, 1) := by decide +kernel
theorem d_Q_removeFirst_9 : decode b_Q_removeFirst 9 = .ok (.iload_n 2, 1) := by decide +kernel
theorem d_Q_removeFirst_10 : decode b_Q_removeFirst 10 = .ok (.aload_n 0, 1) := by decide +kernel
theorem d_Q_removeFirst_11 : decode b_Q_removeFirst 11 = .ok (.getfield 15, 3) := by decide +kernel
theorem d_Q_removeFirst_14 : decode b_Q_removeFirst 14 = .ok (.if_icmp .ge 23, 3) := by decide +kernel
theorem d_Q_removeFirst_17 : decode b_Q_removeFirst 17 = .ok (.aload_n 0, 1) := by decide +kernel
theorem d_Q_removeFirst_18 : decode b_Q_removeFirst 18 = .ok (.getfield 9, 3) := by decide +kernel
theorem d_Q_removeFirst_21 : decode b_Q_removeFirst 21 = .ok (.iload_n 2, 1) := by decide +kernel
theorem d_Q_removeFirst_22 : decode b_Q_removeFirst 22 = .ok (.iconst 1, 1) := by decide +kernel
theorem d_Q_removeFirst_23 : decode b_Q_removeFirst 23 = .ok (.isub, 1) := by decide +kernel
theorem d_Q_removeFirst_24 : decode b_Q_removeFirst 24 = .ok (.aload_n 0, 1) := by decide +kernel
theorem d_Q_removeFirst_25 : decode b_Q_removeFirst 25 = .ok (.getfield 9, 3) := by decide +kernel
theorem d_Q_removeFirst_28 : decode b_Q_removeFirst 28 = .ok (.iload_n 2, 1) := by decide +kernel
theorem d_Q_removeFirst_29 : decode b_Q_removeFirst 29 = .ok (.aaload, 1) := by decide +kernel
theorem d_Q_removeFirst_30 : decode b_Q_removeFirst 30 = .ok (.aastore, 1) := by decide +kernel
theorem d_Q_removeFirst_31 : decode b_Q_removeFirst 31 = .ok (.iinc 2 1, 3) := by decide +kernel
theorem d_Q_removeFirst_34 : decode b_Q_removeFirst 34 = .ok (.goto (-25), 3) := by decide +kernel
theorem d_Q_removeFirst_37 : decode b_Q_removeFirst 37 = .ok (.aload_n 0, 1) := by decide +kernel
theorem d_Q_removeFirst_38 : decode b_Q_removeFirst 38 = .ok (.getfield 15, 3) := by decide +kernel
theorem d_Q_removeFirst_41 : decode b_Q_removeFirst 41 = .ok (.ifCond .le 13, 3) := by decide +kernel
theorem d_Q_removeFirst_44 : decode b_Q_removeFirst 44 = .ok (.aload_n 0, 1) := by decide +kernel
theorem d_Q_removeFirst_45 : decode b_Q_removeFirst 45 = .ok (.dup, 1) := by decide +kernel
theorem d_Q_removeFirst_46 : decode b_Q_removeFirst 46 = .ok (.getfield 15, 3) := by decide +kernel
theorem d_Q_removeFirst_49 : decode b_Q_removeFirst 49 = .ok (.iconst 1, 1) := by decide +kernel
theorem d_Q_removeFirst_50 : decode b_Q_removeFirst 50 = .ok (.isub, 1) := by decide +kernel
theorem d_Q_removeFirst_51 : decode b_Q_removeFirst 51 = .ok (.putfield 15, 3) := by decide +kernel
theorem d_Q_removeFirst_54 : decode b_Q_removeFirst 54 = .ok (.aload_n 1, 1) := by decide +kernel
theorem d_Q_removeFirst_55 : decode b_Q_removeFirst 55 = .ok (.areturn, 1) := by decide +kernel
theorem d_Q_clear_0 : decode b_Q_clear 0 = .ok (.aload_n 0, 1) := by decide +kernel
theorem d_Q_clear_1 : decode b_Q_clear 1 = .ok (.iconst 0, 1) := by decide +kernel
theorem d_Q_clear_2 : decode b_Q_clear 2 = .ok (.putfield 15, 3) := by decide +kernel
theorem d_Q_clear_5 : decode b_Q_clear 5 = .ok (.return_, 1) := by decide +kernel
