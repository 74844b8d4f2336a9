theorem d_U_close_1 : decode b_U_close 1 = .ok (.iconst 0, 1) := by decide +kernel
theorem d_U_close_2 : decode b_U_close 2 = .ok (.putfield 87, 3) := by decide +kernel
theorem d_U_close_5 : decode b_U_close 5 = .ok (.iload_n 1, 1) := by decide +kernel
theorem d_U_close_6 : decode b_U_close 6 = .ok (.invokestatic 144, 3) := by decide +kernel
theorem d_U_close_9 : decode b_U_close 9 = .ok (.ifCond .ne 9, 3) := by decide +kernel
theorem d_U_close_12 : decode b_U_close 12 = .ok (.aload_n 0, 1) := by decide +kernel
theorem d_U_close_13 : decode b_U_close 13 = .ok (.iconst 1, 1) := by decide +kernel
theorem d_U_close_14 : decode b_U_close 14 = .ok (.invokevirtual 140, 3) := by decide +kernel
theorem d_U_close_17 : decode b_U_close 17 = .ok (.ireturn, 1) := by decide +kernel
theorem d_U_close_18 : decode b_U_close 18 = .ok (.aload_n 0, 1) := by decide +kernel
theorem d_U_close_19 : decode b_U_close 19 = .ok (.getfield 20, 3) := by decide +kernel
theorem d_U_close_22 : decode b_U_close 22 = .ok (.iload_n 1, 1) := by decide +kernel
theorem d_U_close_23 : decode b_U_close 23 = .ok (.iaload, 1) := by decide +kernel
theorem d_U_close_24 : decode b_U_close 24 = .ok (.ifCond .ne 9, 3) := by decide +kernel
theorem d_U_close_27 : decode b_U_close 27 = .ok (.aload_n 0, 1) := by decide +kernel
theorem d_U_close_28 : decode b_U_close 28 = .ok (.iconst 2, 1) := by decide +kernel
theorem d_U_close_29 : decode b_U_close 29 = .ok (.invokevirtual 140, 3) := by decide +kernel
theorem d_U_close_32 : decode b_U_close 32 = .ok (.ireturn, 1) := by decide +kernel
theorem d_U_close_33 : decode b_U_close 33 = .ok (.aload_n 0, 1) := by decide +kernel
theorem d_U_close_34 : decode b_U_close 34 = .ok (.getfield 20, 3) := by decide +kernel
theorem d_U_close_37 : decode b_U_close 37 = .ok (.iload_n 1, 1) := by decide +kernel
theorem d_U_close_38 : decode b_U_close 38 = .ok (.iaload, 1) := by decide +kernel
theorem d_U_close_39 : decode b_U_close 39 = .ok (.istore_n 2, 1) := by decide +kernel
theorem d_U_close_40 : decode b_U_close 40 = .ok (.aload_n 0, 1) := by decide +kernel
theorem d_U_close_41 : decode b_U_close 41 = .ok (.iload_n 1, 1) := by decide +kernel
theorem d_U_close_42 : decode b_U_close 42 = .ok (.invokevirtual 163, 3) := by decide +kernel
theorem d_U_close_45 : decode b_U_close 45 = .ok (.iload_n 2, 1) := by decide +kernel
theorem d_U_close_46 : decode b_U_close 46 = .ok (.ireturn, 1) := by decide +kernel
theorem d_U_message_0 : decode b_U_message 0 = .ok (.aload_n 0, 1) := by decide +kernel
theorem d_U_message_1 : decode b_U_message 1 = .ok (.iconst 0, 1) := by decide +kernel
theorem d_U_message_2 : decode b_U_message 2 = .ok (.putfield 87, 3) := by decide +kernel
theorem d_U_message_5 : decode b_U_message 5 = .ok (.iload_n 1, 1) := by decide +kernel
theorem d_U_message_6 : decode b_U_message 6 = .ok (.invokestatic 144, 3) := by decide +kernel
theorem d_U_message_9 : decode b_U_message 9 = .ok (.ifCond .eq 19, 3) := by decide +kernel
theorem d_U_message_12 : decode b_U_message 12 = .ok (.iload_n 2, 1) := by decide +kernel
theorem d_U_message_13 : decode b_U_message 13 = .ok (.invokestatic 136, 3) := by decide +kernel
theorem d_U_message_16 : decode b_U_message 16 = .ok (.ifCond .eq 12, 3) := by decide +kernel
theorem d_U_message_19 : decode b_U_message 19 = .ok (.iload_n 3, 1) := by decide +kernel
theorem d_U_message_20 : decode b_U_message 20 = .ok (.iconst (-1), 1) := by decide +kernel
theorem d_U_message_21 : decode b_U_message 21 = .ok (.iconst 2, 1) := by decide +kernel
theorem d_U_message_22 : decode b_U_message 22 = .ok (.invokestatic 91, 3) := by decide +kernel
theorem d_U_message_25 : decode b_U_message 25 = .ok (.ifCond .ne 9, 3) := by decide +kernel
theorem d_U_message_28 : decode b_U_message 28 = .ok (.aload_n 0, 1) := by decide +kernel
theorem d_U_message_29 : decode b_U_message 29 = .ok (.iconst 1, 1) := by decide +kernel
theorem d_U_message_30 : decode b_U_message 30 = .ok (.invokevirtual 140, 3) := by decide +kernel
theorem d_U_message_33 : decode b_U_message 33 = .ok (.ireturn, 1) := by decide +kernel
theorem d_U_message_34 : decode b_U_message 34 = .ok (.aload_n 0, 1) := by decide +kernel
theorem d_U_message_35 : decode b_U_message 35 = .ok (.getfield 20, 3) := by decide +kernel
theorem d_U_message_38 : decode b_U_message 38 = .ok (.iload_n 1, 1) := by decide +kernel
theorem d_U_message_39 : decode b_U_message 39 = .ok (.iaload, 1) := by decide +kernel
theorem d_U_message_40 : decode b_U_message 40 = .ok (.iconst 4, 1) := by decide +kernel
theorem d_U_message_41 : decode b_U_message 41 = .ok (.if_icmp .eq 9, 3) := by decide +kernel
theorem d_U_message_44 : decode b_U_message 44 = .ok (.aload_n 0, 1) := by decide +kernel
theorem d_U_message_45 : decode b_U_message 45 = .ok (.iconst 2, 1) := by decide +kernel
theorem d_U_message_46 : decode b_U_message 46 = .ok (.invokevirtual 140, 3) := by decide +kernel
theorem d_U_message_49 : decode b_U_message 49 = .ok (.ireturn, 1) := by decide +kernel
theorem d_U_message_50 : decode b_U_message 50 = .ok (.aload_n 0, 1) := by decide +kernel
theorem d_U_message_51 : decode b_U_message 51 = .ok (.iconst 1, 1) := by decide +kernel
theorem d_U_message_52 : decode b_U_message 52 = .ok (.aload_n 0, 1) := by decide +kernel
theorem d_U_message_53 : decode b_U_message 53 = .ok (.getfield 23, 3) := by decide +kernel
theorem d_U_message_56 : decode b_U_message 56 = .ok (.iload_n 1, 1) := by decide +kernel
theorem d_U_message_57 : decode b_U_message 57 = .ok (.iaload, 1) := by decide +kernel
theorem d_U_message_58 : decode b_U_message 58 = .ok (.iload_n 2, 1) := by decide +kernel
theorem d_U_message_59 : decode b_U_message 59 = .ok (.aload_n 0, 1) := by decide +kernel
theorem d_U_message_60 : decode b_U_message 60 = .ok (.getfield 26, 3) := by decide +kernel
theorem d_U_message_63 : decode b_U_message 63 = .ok (.iload_n 1, 1) := by decide +kernel
theorem d_U_message_64 : decode b_U_message 64 = .ok (.iaload, 1) := by decide +kernel
theorem d_U_message_65 : decode b_U_message 65 = .ok (.iload 4, 2) := by decide +kernel
theorem d_U_message_67 : decode b_U_message 67 = .ok (.iload_n 3, 1) := by decide +kernel
theorem d_U_message_68 : decode b_U_message 68 = .ok (.ifCond .ge 8, 3) := by decide +kernel
theorem d_U_message_71 : decode b_U_message 71 = .ok (.bipush (-9), 2) := by decide +kernel
theorem d_U_message_73 : decode b_U_message 73 = .ok (.goto 4, 3) := by decide +kernel
theorem d_U_message_76 : decode b_U_message 76 = .ok (.iload_n 3, 1) := by decide +kernel
theorem d_U_message_77 : decode b_U_message 77 = .ok (.invokevirtual 156, 3) := by decide +kernel
theorem d_U_message_80 : decode b_U_message 80 = .ok (.iconst 1, 1) := by decide +kernel
theorem d_U_message_81 : decode b_U_message 81 = .ok (.ireturn, 1) := by decide +kernel
theorem d_U_show_0 : decode b_U_show 0 = .ok (.iconst 0, 1) := by decide +kernel
theorem d_U_show_1 : decode b_U_show 1 = .ok (.istore 4, 2) := by decide +kernel
theorem d_U_show_3 : decode b_U_show 3 = .ok (.iload 4, 2) := by decide +kernel
theorem d_U_show_5 : decode b_U_show 5 = .ok (.bipush 6, 2) := by decide +kernel
theorem d_U_show_7 : decode b_U_show 7 = .ok (.if_icmp .ge 61, 3) := by decide +kernel
theorem d_U_show_10 : decode b_U_show 10 = .ok (.aload_n 0, 1) := by decide +kernel
theorem d_U_show_11 : decode b_U_show 11 = .ok (.getfield 29, 3) := by decide +kernel
theorem d_U_show_14 : decode b_U_show 14 = .ok (.iload 4, 2) := by decide +kernel
theorem d_U_show_16 : decode b_U_show 16 = .ok (.baload, 1) := by decide +kernel
theorem d_U_show_17 : decode b_U_show 17 = .ok (.ifCond .eq 45, 3) := by decide +kernel
theorem d_U_show_20 : decode b_U_show 20 = .ok (.aload_n 0, 1) := by decide +kernel
theorem d_U_show_21 : decode b_U_show 21 = .ok (.getfield 23, 3) := by decide +kernel
theorem d_U_show_24 : decode b_U_show 24 = .ok (.iload 4, 2) := by decide +kernel
theorem d_U_show_26 : decode b_U_show 26 = .ok (.iaload, 1) := by decide +kernel
theorem d_U_show_27 : decode b_U_show 27 = .ok (.iload_n 1, 1) := by decide +kernel
theorem d_U_show_28 : decode b_U_show 28 = .ok (.if_icmp .ne 34, 3) := by decide +kernel
theorem d_U_show_31 : decode b_U_show 31 = .ok (.aload_n 0, 1) := by decide +kernel
theorem d_U_show_32 : decode b_U_show 32 = .ok (.iload_n 3, 1) := by decide +kernel
theorem d_U_show_33 : decode b_U_show 33 = .ok (.iload_n 1, 1) := by decide +kernel
theorem d_U_show_34 : decode b_U_show 34 = .ok (.iload_n 2, 1) := by decide +kernel
theorem d_U_show_35 : decode b_U_show 35 = .ok (.aload_n 0, 1) := by decide +kernel
theorem d_U_show_36 : decode b_U_show 36 = .ok (.getfield 26, 3) := by decide +kernel
theorem d_U_show_39 : decode b_U_show 39 = .ok (.iload 4, 2) := by decide +kernel
theorem d_U_show_41 : decode b_U_show 41 = .ok (.iaload, 1) := by decide +kernel
theorem d_U_show_42 : decode b_U_show 42 = .ok (.iload_n 3, 1) := by decide +kernel
theorem d_U_show_43 : decode b_U_show 43 = .ok (.iconst 2, 1) := by decide +kernel
theorem d_U_show_44 : decode b_U_show 44 = .ok (.if_icmp .ne 13, 3) := by decide +kernel
theorem d_U_show_47 : decode b_U_show 47 = .ok (.aload_n 0, 1) := by decide +kernel
theorem d_U_show_48 : decode b_U_show 48 = .ok (.getfield 32, 3) := by decide +kernel
theorem d_U_show_51 : decode b_U_show 51 = .ok (.iload 4, 2) := by decide +kernel
theorem d_U_show_53 : decode b_U_show 53 = .ok (.iaload, 1) := by decide +kernel
theorem d_U_show_54 : decode b_U_show 54 = .ok (.goto 4, 3) := by decide +kernel
theorem d_U_show_57 : decode b_U_show 57 = .ok (.iconst 0, 1) := by decide +kernel
theorem d_U_show_58 : decode b_U_show 58 = .ok (.iconst (-1), 1) := by decide +kernel
theorem d_U_show_59 : decode b_U_show 59 = .ok (.invokevirtual 156, 3) := by decide +kernel
theorem d_U_show_62 : decode b_U_show 62 = .ok (.iinc 4 1, 3) := by decide +kernel
theorem d_U_show_65 : decode b_U_show 65 = .ok (.goto (-62), 3) := by decide +kernel
theorem d_U_show_68 : decode b_U_show 68 = .ok (.return_, 1) := by decide +kernel
theorem d_U_subscribe_0 : decode b_U_subscribe 0 = .ok (.aload_n 0, 1) := by decide +kernel
theorem d_U_subscribe_1 : decode b_U_subscribe 1 = .ok (.iconst 0, 1) := by decide +kernel
theorem d_U_subscribe_2 : decode b_U_subscribe 2 = .ok (.putfield 87, 3) := by decide +kernel
theorem d_U_subscribe_5 : decode b_U_subscribe 5 = .ok (.iload_n 1, 1) := by decide +kernel
theorem d_U_subscribe_6 : decode b_U_subscribe 6 = .ok (.invokestatic 144, 3) := by decide +kernel
theorem d_U_subscribe_9 : decode b_U_subscribe 9 = .ok (.ifCond .eq 30, 3) := by decide +kernel
theorem d_U_subscribe_12 : decode b_U_subscribe 12 = .ok (.iload_n 2, 1) := by decide +kernel
theorem d_U_subscribe_13 : decode b_U_subscribe 13 = .ok (.invokestatic 136, 3) := by decide +kernel
theorem d_U_subscribe_16 : decode b_U_subscribe 16 = .ok (.ifCond .eq 23, 3) := by decide +kernel
theorem d_U_subscribe_19 : decode b_U_subscribe 19 = .ok (.iload_n 3, 1) := by decide +kernel
theorem d_U_subscribe_20 : decode b_U_subscribe 20 = .ok (.iconst 4, 1) := by decide +kernel
theorem d_U_subscribe_21 : decode b_U_subscribe 21 = .ok (.bipush 7, 2) := by decide +kernel
theorem d_U_subscribe_23 : decode b_U_subscribe 23 = .ok (.invokestatic 91, 3) := by decide +kernel
theorem d_U_subscribe_26 : decode b_U_subscribe 26 = .ok (.ifCond .eq 13, 3) := by decide +kernel
theorem d_U_subscribe_29 : decode b_U_subscribe 29 = .ok (.aload_n 0, 1) := by decide +kernel
theorem d_U_subscribe_30 : decode b_U_subscribe 30 = .ok (.getfield 23, 3) := by decide +kernel
theorem d_U_subscribe_33 : decode b_U_subscribe 33 = .ok (.iload_n 1, 1) := by decide +kernel
theorem d_U_subscribe_34 : decode b_U_subscribe 34 = .ok (.iaload, 1) := by decide +kernel
theorem d_U_subscribe_35 : decode b_U_subscribe 35 = .ok (.iload_n 2, 1) := by decide +kernel
theorem d_U_subscribe_36 : decode b_U_subscribe 36 = .ok (.if_icmp .ne 9, 3) := by decide +kernel
theorem d_U_subscribe_39 : decode b_U_subscribe 39 = .ok (.aload_n 0, 1) := by decide +kernel
theorem d_U_subscribe_40 : decode b_U_subscribe 40 = .ok (.iconst 1, 1) := by decide +kernel
theorem d_U_subscribe_41 : decode b_U_subscribe 41 = .ok (.invokevirtual 140, 3) := by decide +kernel
theorem d_U_subscribe_44 : decode b_U_subscribe 44 = .ok (.ireturn, 1) := by decide +kernel
theorem d_U_subscribe_45 : decode b_U_subscribe 45 = .ok (.aload_n 0, 1) := by decide +kernel
theorem d_U_subscribe_46 : decode b_U_subscribe 46 = .ok (.getfield 20, 3) := by decide +kernel
theorem d_U_subscribe_49 : decode b_U_subscribe 49 = .ok (.iload_n 1, 1) := by decide +kernel
theorem d_U_subscribe_50 : decode b_U_subscribe 50 = .ok (.iaload, 1) := by decide +kernel
theorem d_U_subscribe_51 : decode b_U_subscribe 51 = .ok (.iconst 4, 1) := by decide +kernel
theorem d_U_subscribe_52 : decode b_U_subscribe 52 = .ok (.if_icmp .eq 9, 3) := by decide +kernel
theorem d_U_subscribe_55 : decode b_U_subscribe 55 = .ok (.aload_n 0, 1) := by decide +kernel
theorem d_U_subscribe_56 : decode b_U_subscribe 56 = .ok (.iconst 2, 1) := by decide +kernel
theorem d_U_subscribe_57 : decode b_U_subscribe 57 = .ok (.invokevirtual 140, 3) := by decide +kernel
theorem d_U_subscribe_60 : decode b_U_subscribe 60 = .ok (.ireturn, 1) := by decide +kernel
theorem d_U_subscribe_61 : decode b_U_subscribe 61 = .ok (.aload_n 0, 1) := by decide +kernel
theorem d_U_subscribe_62 : decode b_U_subscribe 62 = .ok (.getfield 23, 3) := by decide +kernel
theorem d_U_subscribe_65 : decode b_U_subscribe 65 = .ok (.iload_n 1, 1) := by decide +kernel
theorem d_U_subscribe_66 : decode b_U_subscribe 66 = .ok (.iaload, 1) := by decide +kernel
theorem d_U_subscribe_67 : decode b_U_subscribe 67 = .ok (.istore 4, 2) := by decide +kernel
theorem d_U_subscribe_69 : decode b_U_subscribe 69 = .ok (.iload_n 3, 1) := by decide +kernel
theorem d_U_subscribe_70 : decode b_U_subscribe 70 = .ok (.iconst 5, 1) := by decide +kernel
theorem d_U_subscribe_71 : decode b_U_subscribe 71 = .ok (.if_icmp .ne 17, 3) := by decide +kernel
theorem d_U_subscribe_74 : decode b_U_subscribe 74 = .ok (.aload_n 0, 1) := by decide +kernel
theorem d_U_subscribe_75 : decode b_U_subscribe 75 = .ok (.iload 4, 2) := by decide +kernel
theorem d_U_subscribe_77 : decode b_U_subscribe 77 = .ok (.iload_n 2, 1) := by decide +kernel
theorem d_U_subscribe_78 : decode b_U_subscribe 78 = .ok (.bipush 8, 2) := by decide +kernel
theorem d_U_subscribe_80 : decode b_U_subscribe 80 = .ok (.invokevirtual 102, 3) := by decide +kernel
theorem d_U_subscribe_83 : decode b_U_subscribe 83 = .ok (.ifCond .ne 5, 3) := by decide +kernel
theorem d_U_subscribe_86 : decode b_U_subscribe 86 = .ok (.iconst 0, 1) := by decide +kernel
theorem d_U_subscribe_87 : decode b_U_subscribe 87 = .ok (.ireturn, 1) := by decide +kernel
theorem d_U_subscribe_88 : decode b_U_subscribe 88 = .ok (.iload_n 3, 1) := by decide +kernel
theorem d_U_subscribe_89 : decode b_U_subscribe 89 = .ok (.iconst 4, 1) := by decide +kernel
theorem d_U_subscribe_90 : decode b_U_subscribe 90 = .ok (.if_icmp .ne 22, 3) := by decide +kernel
theorem d_U_subscribe_93 : decode b_U_subscribe 93 = .ok (.aload_n 0, 1) := by decide +kernel
theorem d_U_subscribe_94 : decode b_U_subscribe 94 = .ok (.iload 4, 2) := by decide +kernel
theorem d_U_subscribe_96 : decode b_U_subscribe 96 = .ok (.iload_n 2, 1) := by decide +kernel
theorem d_U_subscribe_97 : decode b_U_subscribe 97 = .ok (.iconst 1, 1) := by decide +kernel
theorem d_U_subscribe_98 : decode b_U_subscribe 98 = .ok (.invokevirtual 102, 3) := by decide +kernel
theorem d_U_subscribe_101 : decode b_U_subscribe 101 = .ok (.ifCond .ne 11, 3) := by decide +kernel
theorem d_U_subscribe_104 : decode b_U_subscribe 104 = .ok (.aload_n 0, 1) := by decide +kernel
theorem d_U_subscribe_105 : decode b_U_subscribe 105 = .ok (.iload 4, 2) := by decide +kernel
theorem d_U_subscribe_107 : decode b_U_subscribe 107 = .ok (.iload_n 2, 1) := by decide +kernel
theorem d_U_subscribe_108 : decode b_U_subscribe 108 = .ok (.iconst 4, 1) := by decide +kernel
theorem d_U_subscribe_109 : decode b_U_subscribe 109 = .ok (.invokevirtual 119, 3) := by decide +kernel
theorem d_U_subscribe_112 : decode b_U_subscribe 112 = .ok (.iload_n 3, 1) := by decide +kernel
theorem d_U_subscribe_113 : decode b_U_subscribe 113 = .ok (.iconst 5, 1) := by decide +kernel
theorem d_U_subscribe_114 : decode b_U_subscribe 114 = .ok (.if_icmp .ne 20, 3) := by decide +kernel
theorem d_U_subscribe_117 : decode b_U_subscribe 117 = .ok (.aload_n 0, 1) := by decide +kernel
theorem d_U_subscribe_118 : decode b_U_subscribe 118 = .ok (.iload 4, 2) := by decide +kernel
theorem d_U_subscribe_120 : decode b_U_subscribe 120 = .ok (.iload_n 2, 1) := by decide +kernel
theorem d_U_subscribe_121 : decode b_U_subscribe 121 = .ok (.iconst 2, 1) := by decide +kernel
theorem d_U_subscribe_122 : decode b_U_subscribe 122 = .ok (.invokevirtual 119, 3) := by decide +kernel
theorem d_U_subscribe_125 : decode b_U_subscribe 125 = .ok (.aload_n 0, 1) := by decide +kernel
theorem d_U_subscribe_126 : decode b_U_subscribe 126 = .ok (.iload 4, 2) := by decide +kernel
theorem d_U_subscribe_128 : decode b_U_subscribe 128 = .ok (.iload_n 2, 1) := by decide +kernel
theorem d_U_subscribe_129 : decode b_U_subscribe 129 = .ok (.bipush 8, 2) := by decide +kernel
theorem d_U_subscribe_131 : decode b_U_subscribe 131 = .ok (.invokevirtual 105, 3) := by decide +kernel
theorem d_U_subscribe_134 : decode b_U_subscribe 134 = .ok (.iload_n 3, 1) := by decide +kernel
theorem d_U_subscribe_135 : decode b_U_subscribe 135 = .ok (.bipush 6, 2) := by decide +kernel
theorem d_U_subscribe_137 : decode b_U_subscribe 137 = .ok (.if_icmp .ne 11, 3) := by decide +kernel
theorem d_U_subscribe_140 : decode b_U_subscribe 140 = .ok (.aload_n 0, 1) := by decide +kernel
theorem d_U_subscribe_141 : decode b_U_subscribe 141 = .ok (.iload 4, 2) := by decide +kernel
theorem d_U_subscribe_143 : decode b_U_subscribe 143 = .ok (.iload_n 2, 1) := by decide +kernel
theorem d_U_subscribe_144 : decode b_U_subscribe 144 = .ok (.iconst 5, 1) := by decide +kernel
theorem d_U_subscribe_145 : decode b_U_subscribe 145 = .ok (.invokevirtual 105, 3) := by decide +kernel
theorem d_U_subscribe_148 : decode b_U_subscribe 148 = .ok (.iload_n 3, 1) := by decide +kernel
theorem d_U_subscribe_149 : decode b_U_subscribe 149 = .ok (.bipush 7, 2) := by decide +kernel
theorem d_U_subscribe_151 : decode b_U_subscribe 151 = .ok (.if_icmp .ne 31, 3) := by decide +kernel
theorem d_U_subscribe_154 : decode b_U_subscribe 154 = .ok (.aload_n 0, 1) := by decide +kernel
theorem d_U_subscribe_155 : decode b_U_subscribe 155 = .ok (.iload 4, 2) := by decide +kernel
theorem d_U_subscribe_157 : decode b_U_subscribe 157 = .ok (.iload_n 2, 1) := by decide +kernel
theorem d_U_subscribe_158 : decode b_U_subscribe 158 = .ok (.iconst 2, 1) := by decide +kernel
theorem d_U_subscribe_159 : decode b_U_subscribe 159 = .ok (.invokevirtual 102, 3) := by decide +kernel
theorem d_U_subscribe_162 : decode b_U_subscribe 162 = .ok (.ifCond .eq 11, 3) := by decide +kernel
theorem d_U_subscribe_165 : decode b_U_subscribe 165 = .ok (.aload_n 0, 1) := by decide +kernel
theorem d_U_subscribe_166 : decode b_U_subscribe 166 = .ok (.iload 4, 2) := by decide +kernel
theorem d_U_subscribe_168 : decode b_U_subscribe 168 = .ok (.iload_n 2, 1) := by decide +kernel
theorem d_U_subscribe_169 : decode b_U_subscribe 169 = .ok (.iconst 3, 1) := by decide +kernel
theorem d_U_subscribe_170 : decode b_U_subscribe 170 = .ok (.invokevirtual 170, 3) := by decide +kernel
theorem d_U_subscribe_173 : decode b_U_subscribe 173 = .ok (.aload_n 0, 1) := by decide +kernel
theorem d_U_subscribe_174 : decode b_U_subscribe 174 = .ok (.iload 4, 2) := by decide +kernel
theorem d_U_subscribe_176 : decode b_U_subscribe 176 = .ok (.iload_n 2, 1) := by decide +kernel
theorem d_U_subscribe_177 : decode b_U_subscribe 177 = .ok (.bipush 10, 2) := by decide +kernel
theorem d_U_subscribe_179 : decode b_U_subscribe 179 = .ok (.invokevirtual 105, 3) := by decide +kernel
theorem d_U_subscribe_182 : decode b_U_subscribe 182 = .ok (.aload_n 0, 1) := by decide +kernel
theorem d_U_subscribe_183 : decode b_U_subscribe 183 = .ok (.iload_n 3, 1) := by decide +kernel
theorem d_U_subscribe_184 : decode b_U_subscribe 184 = .ok (.iload 4, 2) := by decide +kernel
theorem d_U_subscribe_186 : decode b_U_subscribe 186 = .ok (.iload_n 2, 1) := by decide +kernel
theorem d_U_subscribe_187 : decode b_U_subscribe 187 = .ok (.iconst (-1), 1) := by decide +kernel
theorem d_U_subscribe_188 : decode b_U_subscribe 188 = .ok (.iconst 0, 1) := by decide +kernel
theorem d_U_subscribe_189 : decode b_U_subscribe 189 = .ok (.iconst (-1), 1) := by decide +kernel
theorem d_U_subscribe_190 : decode b_U_subscribe 190 = .ok (.invokevirtual 156, 3) := by decide +kernel
theorem d_U_subscribe_193 : decode b_U_subscribe 193 = .ok (.iload_n 3, 1) := by decide +kernel
theorem d_U_subscribe_194 : decode b_U_subscribe 194 = .ok (.iconst 5, 1) := by decide +kernel
theorem d_U_subscribe_195 : decode b_U_subscribe 195 = .ok (.if_icmp .ne 11, 3) := by decide +kernel
theorem d_U_subscribe_198 : decode b_U_subscribe 198 = .ok (.aload_n 0, 1) := by decide +kernel
theorem d_U_subscribe_199 : decode b_U_subscribe 199 = .ok (.iload 4, 2) := by decide +kernel
theorem d_U_subscribe_201 : decode b_U_subscribe 201 = .ok (.iload_n 2, 1) := by decide +kernel
theorem d_U_subscribe_202 : decode b_U_subscribe 202 = .ok (.iconst 2, 1) := by decide +kernel
theorem d_U_subscribe_203 : decode b_U_subscribe 203 = .ok (.invokevirtual 170, 3) := by decide +kernel
theorem d_U_subscribe_206 : decode b_U_subscribe 206 = .ok (.iconst 1, 1) := by decide +kernel
theorem d_U_subscribe_207 : decode b_U_subscribe 207 = .ok (.ireturn, 1) := by decide +kernel
theorem d_U_link_0 : decode b_U_link 0 = .ok (.aload_n 0, 1) := by decide +kernel
theorem d_U_link_1 : decode b_U_link 1 = .ok (.iconst 0, 1) := by decide +kernel
theorem d_U_link_2 : decode b_U_link 2 = .ok (.putfield 87, 3) := by decide +kernel
theorem d_U_link_5 : decode b_U_link 5 = .ok (.aload_n 0, 1) := by decide +kernel
theorem d_U_link_6 : decode b_U_link 6 = .ok (.iload_n 1, 1) := by decide +kernel
theorem d_U_link_7 : decode b_U_link 7 = .ok (.putfield 83, 3) := by decide +kernel
theorem d_U_link_10 : decode b_U_link 10 = .ok (.iload_n 1, 1) := by decide +kernel
theorem d_U_link_11 : decode b_U_link 11 = .ok (.ifCond .ne 5, 3) := by decide +kernel
theorem d_U_link_14 : decode b_U_link 14 = .ok (.iconst 0, 1) := by decide +kernel
theorem d_U_link_15 : decode b_U_link 15 = .ok (.ireturn, 1) := by decide +kernel
theorem d_U_link_16 : decode b_U_link 16 = .ok (.aload_n 0, 1) := by decide +kernel
theorem d_U_link_17 : decode b_U_link 17 = .ok (.getfield 126, 3) := by decide +kernel
theorem d_U_link_20 : decode b_U_link 20 = .ok (.istore_n 2, 1) := by decide +kernel
theorem d_U_link_21 : decode b_U_link 21 = .ok (.aload_n 0, 1) := by decide +kernel
theorem d_U_link_22 : decode b_U_link 22 = .ok (.iconst 0, 1) := by decide +kernel
theorem d_U_link_23 : decode b_U_link 23 = .ok (.putfield 126, 3) := by decide +kernel
theorem d_U_link_26 : decode b_U_link 26 = .ok (.iconst 0, 1) := by decide +kernel
theorem d_U_link_27 : decode b_U_link 27 = .ok (.istore_n 3, 1) := by decide +kernel
theorem d_U_link_28 : decode b_U_link 28 = .ok (.iload_n 3, 1) := by decide +kernel
theorem d_U_link_29 : decode b_U_link 29 = .ok (.iload_n 2, 1) := by decide +kernel
theorem d_U_link_30 : decode b_U_link 30 = .ok (.if_icmp .ge 49, 3) := by decide +kernel
theorem d_U_link_33 : decode b_U_link 33 = .ok (.aload_n 0, 1) := by decide +kernel
theorem d_U_link_34 : decode b_U_link 34 = .ok (.aload_n 0, 1) := by decide +kernel
theorem d_U_link_35 : decode b_U_link 35 = .ok (.getfield 65, 3) := by decide +kernel
theorem d_U_link_38 : decode b_U_link 38 = .ok (.iload_n 3, 1) := by decide +kernel
theorem d_U_link_39 : decode b_U_link 39 = .ok (.iaload, 1) := by decide +kernel
theorem d_U_link_40 : decode b_U_link 40 = .ok (.aload_n 0, 1) := by decide +kernel
theorem d_U_link_41 : decode b_U_link 41 = .ok (.getfield 68, 3) := by decide +kernel
theorem d_U_link_44 : decode b_U_link 44 = .ok (.iload_n 3, 1) := by decide +kernel
theorem d_U_link_45 : decode b_U_link 45 = .ok (.iaload, 1) := by decide +kernel
theorem d_U_link_46 : decode b_U_link 46 = .ok (.aload_n 0, 1) := by decide +kernel
theorem d_U_link_47 : decode b_U_link 47 = .ok (.getfield 71, 3) := by decide +kernel
theorem d_U_link_50 : decode b_U_link 50 = .ok (.iload_n 3, 1) := by decide +kernel
theorem d_U_link_51 : decode b_U_link 51 = .ok (.iaload, 1) := by decide +kernel
theorem d_U_link_52 : decode b_U_link 52 = .ok (.aload_n 0, 1) := by decide +kernel
theorem d_U_link_53 : decode b_U_link 53 = .ok (.getfield 74, 3) := by decide +kernel
theorem d_U_link_56 : decode b_U_link 56 = .ok (.iload_n 3, 1) := by decide +kernel
theorem d_U_link_57 : decode b_U_link 57 = .ok (.iaload, 1) := by decide +kernel
theorem d_U_link_58 : decode b_U_link 58 = .ok (.aload_n 0, 1) := by decide +kernel
theorem d_U_link_59 : decode b_U_link 59 = .ok (.getfield 77, 3) := by decide +kernel
theorem d_U_link_62 : decode b_U_link 62 = .ok (.iload_n 3, 1) := by decide +kernel
theorem d_U_link_63 : decode b_U_link 63 = .ok (.iaload, 1) := by decide +kernel
theorem d_U_link_64 : decode b_U_link 64 = .ok (.aload_n 0, 1) := by decide +kernel
theorem d_U_link_65 : decode b_U_link 65 = .ok (.getfield 80, 3) := by decide +kernel
theorem d_U_link_68 : decode b_U_link 68 = .ok (.iload_n 3, 1) := by decide +kernel
theorem d_U_link_69 : decode b_U_link 69 = .ok (.iaload, 1) := by decide +kernel
theorem d_U_link_70 : decode b_U_link 70 = .ok (.invokevirtual 156, 3) := by decide +kernel
theorem d_U_link_73 : decode b_U_link 73 = .ok (.iinc 3 1, 3) := by decide +kernel
theorem d_U_link_76 : decode b_U_link 76 = .ok (.goto (-48), 3) := by decide +kernel
theorem d_U_link_79 : decode b_U_link 79 = .ok (.iload_n 2, 1) := by decide +kernel
theorem d_U_link_80 : decode b_U_link 80 = .ok (.ireturn, 1) := by decide +kernel
theorem d_U_take_0 : decode b_U_take 0 = .ok (.aload_n 0, 1) := by decide +kernel
theorem d_U_take_1 : decode b_U_take 1 = .ok (.iconst 0, 1) := by decide +kernel
theorem d_U_take_2 : decode b_U_take 2 = .ok (.putfield 87, 3) := by decide +kernel
theorem d_U_take_5 : decode b_U_take 5 = .ok (.iload_n 1, 1) := by decide +kernel
theorem d_U_take_6 : decode b_U_take 6 = .ok (.invokestatic 144, 3) := by decide +kernel
theorem d_U_take_9 : decode b_U_take 9 = .ok (.ifCond .ne 9, 3) := by decide +kernel
theorem d_U_take_12 : decode b_U_take 12 = .ok (.aload_n 0, 1) := by decide +kernel
theorem d_U_take_13 : decode b_U_take 13 = .ok (.iconst 1, 1) := by decide +kernel
theorem d_U_take_14 : decode b_U_take 14 = .ok (.invokevirtual 140, 3) := by decide +kernel
theorem d_U_take_17 : decode b_U_take 17 = .ok (.ireturn, 1) := by decide +kernel
theorem d_U_take_18 : decode b_U_take 18 = .ok (.aload_n 0, 1) := by decide +kernel
theorem d_U_take_19 : decode b_U_take 19 = .ok (.getfield 50, 3) := by decide +kernel
theorem d_U_take_22 : decode b_U_take 22 = .ok (.iload_n 1, 1) := by decide +kernel
theorem d_U_take_23 : decode b_U_take 23 = .ok (.iaload, 1) := by decide +kernel
theorem d_U_take_24 : decode b_U_take 24 = .ok (.ifCond .ne 9, 3) := by decide +kernel
theorem d_U_take_27 : decode b_U_take 27 = .ok (.aload_n 0, 1) := by decide +kernel
theorem d_U_take_28 : decode b_U_take 28 = .ok (.iconst 2, 1) := by decide +kernel
theorem d_U_take_29 : decode b_U_take 29 = .ok (.invokevirtual 140, 3) := by decide +kernel
theorem d_U_take_32 : decode b_U_take 32 = .ok (.ireturn, 1) := by decide +kernel
theorem d_U_take_33 : decode b_U_take 33 = .ok (.bipush 10, 2) := by decide +kernel
theorem d_U_take_35 : decode b_U_take 35 = .ok (.iload_n 1, 1) := by decide +kernel
theorem d_U_take_36 : decode b_U_take 36 = .ok (.imul, 1) := by decide +kernel
theorem d_U_take_37 : decode b_U_take 37 = .ok (.istore_n 2, 1) := by decide +kernel
theorem d_U_take_38 : decode b_U_take 38 = .ok (.aload_n 0, 1) := by decide +kernel
theorem d_U_take_39 : decode b_U_take 39 = .ok (.getfield 38, 3) := by decide +kernel
theorem d_U_take_42 : decode b_U_take 42 = .ok (.iload_n 2, 1) := by decide +kernel
theorem d_U_take_43 : decode b_U_take 43 = .ok (.iaload, 1) := by decide +kernel
theorem d_U_take_44 : decode b_U_take 44 = .ok (.istore_n 3, 1) := by decide +kernel
theorem d_U_take_45 : decode b_U_take 45 = .ok (.aload_n 0, 1) := by decide +kernel
theorem d_U_take_46 : decode b_U_take 46 = .ok (.iconst 1, 1) := by decide +kernel
theorem d_U_take_47 : decode b_U_take 47 = .ok (.putfield 173, 3) := by decide +kernel
theorem d_U_take_50 : decode b_U_take 50 = .ok (.aload_n 0, 1) := by decide +kernel
theorem d_U_take_51 : decode b_U_take 51 = .ok (.aload_n 0, 1) := by decide +kernel
theorem d_U_take_52 : decode b_U_take 52 = .ok (.getfield 41, 3) := by decide +kernel
theorem d_U_take_55 : decode b_U_take 55 = .ok (.iload_n 2, 1) := by decide +kernel
theorem d_U_take_56 : decode b_U_take 56 = .ok (.iaload, 1) := by decide +kernel
theorem d_U_take_57 : decode b_U_take 57 = .ok (.putfield 176, 3) := by decide +kernel
theorem d_U_take_60 : decode b_U_take 60 = .ok (.aload_n 0, 1) := by decide +kernel
theorem d_U_take_61 : decode b_U_take 61 = .ok (.aload_n 0, 1) := by decide +kernel
theorem d_U_take_62 : decode b_U_take 62 = .ok (.getfield 44, 3) := by decide +kernel
theorem d_U_take_65 : decode b_U_take 65 = .ok (.iload_n 2, 1) := by decide +kernel
theorem d_U_take_66 : decode b_U_take 66 = .ok (.iaload, 1) := by decide +kernel
theorem d_U_take_67 : decode b_U_take 67 = .ok (.putfield 179, 3) := by decide +kernel
theorem d_U_take_70 : decode b_U_take 70 = .ok (.aload_n 0, 1) := by decide +kernel
theorem d_U_take_71 : decode b_U_take 71 = .ok (.aload_n 0, 1) := by decide +kernel
theorem d_U_take_72 : decode b_U_take 72 = .ok (.getfield 47, 3) := by decide +kernel
theorem d_U_take_75 : decode b_U_take 75 = .ok (.iload_n 2, 1) := by decide +kernel
theorem d_U_take_76 : decode b_U_take 76 = .ok (.iaload, 1) := by decide +kernel
theorem d_U_take_77 : decode b_U_take 77 = .ok (.putfield 182, 3) := by decide +kernel
theorem d_U_take_80 : decode b_U_take 80 = .ok (.aload_n 0, 1) := by decide +kernel
theorem d_U_take_81 : decode b_U_take 81 = .ok (.getfield 50, 3) := by decide +kernel
theorem d_U_take_84 : decode b_U_take 84 = .ok (.iload_n 1, 1) := by decide +kernel
theorem d_U_take_85 : decode b_U_take 85 = .ok (.dup2, 1) := by decide +kernel
theorem d_U_take_86 : decode b_U_take 86 = .ok (.iaload, 1) := by decide +kernel
theorem d_U_take_87 : decode b_U_take 87 = .ok (.iconst 1, 1) := by decide +kernel
theorem d_U_take_88 : decode b_U_take 88 = .ok (.isub, 1) := by decide +kernel
theorem d_U_take_89 : decode b_U_take 89 = .ok (.iastore, 1) := by decide +kernel
theorem d_U_take_90 : decode b_U_take 90 = .ok (.iload_n 2, 1) := by decide +kernel
theorem d_U_take_91 : decode b_U_take 91 = .ok (.istore 4, 2) := by decide +kernel
theorem d_U_take_93 : decode b_U_take 93 = .ok (.iload 4, 2) := by decide +kernel
theorem d_U_take_95 : decode b_U_take 95 = .ok (.iload_n 2, 1) := by decide +kernel
theorem d_U_take_96 : decode b_U_take 96 = .ok (.aload_n 0, 1) := by decide +kernel
theorem d_U_take_97 : decode b_U_take 97 = .ok (.getfield 50, 3) := by decide +kernel
theorem d_U_take_100 : decode b_U_take 100 = .ok (.iload_n 1, 1) := by decide +kernel
theorem d_U_take_101 : decode b_U_take 101 = .ok (.iaload, 1) := by decide +kernel
theorem d_U_take_102 : decode b_U_take 102 = .ok (.iadd, 1) := by decide +kernel
theorem d_U_take_103 : decode b_U_take 103 = .ok (.if_icmp .ge 73, 3) := by decide +kernel
theorem d_U_take_106 : decode b_U_take 106 = .ok (.aload_n 0, 1) := by decide +kernel
theorem d_U_take_107 : decode b_U_take 107 = .ok (.getfield 38, 3) := by decide +kernel
theorem d_U_take_110 : decode b_U_take 110 = .ok (.iload 4, 2) := by decide +kernel
theorem d_U_take_112 : decode b_U_take 112 = .ok (.aload_n 0, 1) := by decide +kernel
theorem d_U_take_113 : decode b_U_take 113 = .ok (.getfield 38, 3) := by decide +kernel
theorem d_U_take_116 : decode b_U_take 116 = .ok (.iload 4, 2) := by decide +kernel
theorem d_U_take_118 : decode b_U_take 118 = .ok (.iconst 1, 1) := by decide +kernel
theorem d_U_take_119 : decode b_U_take 119 = .ok (.iadd, 1) := by decide +kernel
theorem d_U_take_120 : decode b_U_take 120 = .ok (.iaload, 1) := by decide +kernel
theorem d_U_take_121 : decode b_U_take 121 = .ok (.iastore, 1) := by decide +kernel
theorem d_U_take_122 : decode b_U_take 122 = .ok (.aload_n 0, 1) := by decide +kernel
theorem d_U_take_123 : decode b_U_take 123 = .ok (.getfield 41, 3) := by decide +kernel
theorem d_U_take_126 : decode b_U_take 126 = .ok (.iload 4, 2) := by decide +kernel
theorem d_U_take_128 : decode b_U_take 128 = .ok (.aload_n 0, 1) := by decide +kernel
theorem d_U_take_129 : decode b_U_take 129 = .ok (.getfield 41, 3) := by decide +kernel
theorem d_U_take_132 : decode b_U_take 132 = .ok (.iload 4, 2) := by decide +kernel
theorem d_U_take_134 : decode b_U_take 134 = .ok (.iconst 1, 1) := by decide +kernel
theorem d_U_take_135 : decode b_U_take 135 = .ok (.iadd, 1) := by decide +kernel
theorem d_U_take_136 : decode b_U_take 136 = .ok (.iaload, 1) := by decide +kernel
theorem d_U_take_137 : decode b_U_take 137 = .ok (.iastore, 1) := by decide +kernel
theorem d_U_take_138 : decode b_U_take 138 = .ok (.aload_n 0, 1) := by decide +kernel
theorem d_U_take_139 : decode b_U_take 139 = .ok (.getfield 44, 3) := by decide +kernel
theorem d_U_take_142 : decode b_U_take 142 = .ok (.iload 4, 2) := by decide +kernel
theorem d_U_take_144 : decode b_U_take 144 = .ok (.aload_n 0, 1) := by decide +kernel
theorem d_U_take_145 : decode b_U_take 145 = .ok (.getfield 44, 3) := by decide +kernel
theorem d_U_take_148 : decode b_U_take 148 = .ok (.iload 4, 2) := by decide +kernel
theorem d_U_take_150 : decode b_U_take 150 = .ok (.iconst 1, 1) := by decide +kernel
theorem d_U_take_151 : decode b_U_take 151 = .ok (.iadd, 1) := by decide +kernel
theorem d_U_take_152 : decode b_U_take 152 = .ok (.iaload, 1) := by decide +kernel
theorem d_U_take_153 : decode b_U_take 153 = .ok (.iastore, 1) := by decide +kernel
theorem d_U_take_154 : decode b_U_take 154 = .ok (.aload_n 0, 1) := by decide +kernel
theorem d_U_take_155 : decode b_U_take 155 = .ok (.getfield 47, 3) := by decide +kernel
theorem d_U_take_158 : decode b_U_take 158 = .ok (.iload 4, 2) := by decide +kernel
theorem d_U_take_160 : decode b_U_take 160 = .ok (.aload_n 0, 1) := by decide +kernel
theorem d_U_take_161 : decode b_U_take 161 = .ok (.getfield 47, 3) := by decide +kernel
theorem d_U_take_164 : decode b_U_take 164 = .ok (.iload 4, 2) := by decide +kernel
theorem d_U_take_166 : decode b_U_take 166 = .ok (.iconst 1, 1) := by decide +kernel
theorem d_U_take_167 : decode b_U_take 167 = .ok (.iadd, 1) := by decide +kernel
theorem d_U_take_168 : decode b_U_take 168 = .ok (.iaload, 1) := by decide +kernel
theorem d_U_take_169 : decode b_U_take 169 = .ok (.iastore, 1) := by decide +kernel
theorem d_U_take_170 : decode b_U_take 170 = .ok (.iinc 4 1, 3) := by decide +kernel
theorem d_U_take_173 : decode b_U_take 173 = .ok (.goto (-80), 3) := by decide +kernel
theorem d_U_take_176 : decode b_U_take 176 = .ok (.iload_n 3, 1) := by decide +kernel
theorem d_U_take_177 : decode b_U_take 177 = .ok (.ireturn, 1) := by decide +kernel
theorem d_U_taken_0 : decode b_U_taken 0 = .ok (.aload_n 0, 1) := by decide +kernel
theorem d_U_taken_1 : decode b_U_taken 1 = .ok (.iconst 0, 1) := by decide +kernel
theorem d_U_taken_2 : decode b_U_taken 2 = .ok (.putfield 87, 3) := by decide +kernel
theorem d_U_taken_5 : decode b_U_taken 5 = .ok (.aload_n 0, 1) := by decide +kernel
theorem d_U_taken_6 : decode b_U_taken 6 = .ok (.getfield 173, 3) := by decide +kernel
theorem d_U_taken_9 : decode b_U_taken 9 = .ok (.ifCond .ne 9, 3) := by decide +kernel
theorem d_U_taken_12 : decode b_U_taken 12 = .ok (.aload_n 0, 1) := by decide +kernel
theorem d_U_taken_13 : decode b_U_taken 13 = .ok (.iconst 1, 1) := by decide +kernel
theorem d_U_taken_14 : decode b_U_taken 14 = .ok (.invokevirtual 140, 3) := by decide +kernel
theorem d_U_taken_17 : decode b_U_taken 17 = .ok (.ireturn, 1) := by decide +kernel
theorem d_U_taken_18 : decode b_U_taken 18 = .ok (.iload_n 1, 1) := by decide +kernel
theorem d_U_taken_19 : decode b_U_taken 19 = .ok (.tableswitch 40 0 2 #[25, 30, 35], 25) := by decide +kernel
theorem d_U_taken_44 : decode b_U_taken 44 = .ok (.aload_n 0, 1) := by decide +kernel
theorem d_U_taken_45 : decode b_U_taken 45 = .ok (.getfield 176, 3) := by decide +kernel
theorem d_U_taken_48 : decode b_U_taken 48 = .ok (.ireturn, 1) := by decide +kernel
theorem d_U_taken_49 : decode b_U_taken 49 = .ok (.aload_n 0, 1) := by decide +kernel
theorem d_U_taken_50 : decode b_U_taken 50 = .ok (.getfield 179, 3) := by decide +kernel
theorem d_U_taken_53 : decode b_U_taken 53 = .ok (.ireturn, 1) := by decide +kernel
theorem d_U_taken_54 : decode b_U_taken 54 = .ok (.aload_n 0, 1) := by decide +kernel
theorem d_U_taken_55 : decode b_U_taken 55 = .ok (.getfield 182, 3) := by decide +kernel
theorem d_U_taken_58 : decode b_U_taken 58 = .ok (.ireturn, 1) := by decide +kernel
theorem d_U_taken_59 : decode b_U_taken 59 = .ok (.aload_n 0, 1) := by decide +kernel
theorem d_U_taken_60 : decode b_U_taken 60 = .ok (.iconst 2, 1) := by decide +kernel
theorem d_U_taken_61 : decode b_U_taken 61 = .ok (.invokevirtual 140, 3) := by decide +kernel
theorem d_U_taken_64 : decode b_U_taken 64 = .ok (.ireturn, 1) := by decide +kernel
theorem d_U_roster_0 : decode b_U_roster 0 = .ok (.aload_n 0, 1) := by decide +kernel
theorem d_U_roster_1 : decode b_U_roster 1 = .ok (.iconst 0, 1) := by decide +kernel
theorem d_U_roster_2 : decode b_U_roster 2 = .ok (.putfield 87, 3) := by decide +kernel
theorem d_U_roster_5 : decode b_U_roster 5 = .ok (.iload_n 1, 1) := by decide +kernel
theorem d_U_roster_6 : decode b_U_roster 6 = .ok (.invokestatic 136, 3) := by decide +kernel
theorem d_U_roster_9 : decode b_U_roster 9 = .ok (.ifCond .eq 24, 3) := by decide +kernel
theorem d_U_roster_12 : decode b_U_roster 12 = .ok (.iload_n 2, 1) := by decide +kernel
theorem d_U_roster_13 : decode b_U_roster 13 = .ok (.invokestatic 136, 3) := by decide +kernel
theorem d_U_roster_16 : decode b_U_roster 16 = .ok (.ifCond .eq 17, 3) := by decide +kernel
theorem d_U_roster_19 : decode b_U_roster 19 = .ok (.aload_n 0, 1) := by decide +kernel
theorem d_U_roster_20 : decode b_U_roster 20 = .ok (.getfield 17, 3) := by decide +kernel
theorem d_U_roster_23 : decode b_U_roster 23 = .ok (.bipush 8, 2) := by decide +kernel
theorem d_U_roster_25 : decode b_U_roster 25 = .ok (.iload_n 1, 1) := by decide +kernel
theorem d_U_roster_26 : decode b_U_roster 26 = .ok (.imul, 1) := by decide +kernel
theorem d_U_roster_27 : decode b_U_roster 27 = .ok (.iload_n 2, 1) := by decide +kernel
theorem d_U_roster_28 : decode b_U_roster 28 = .ok (.iadd, 1) := by decide +kernel
theorem d_U_roster_29 : decode b_U_roster 29 = .ok (.iaload, 1) := by decide +kernel
theorem d_U_roster_30 : decode b_U_roster 30 = .ok (.goto 8, 3) := by decide +kernel
theorem d_U_roster_33 : decode b_U_roster 33 = .ok (.aload_n 0, 1) := by decide +kernel
theorem d_U_roster_34 : decode b_U_roster 34 = .ok (.iconst 1, 1) := by decide +kernel
theorem d_U_roster_35 : decode b_U_roster 35 = .ok (.invokevirtual 140, 3) := by decide +kernel
theorem d_U_roster_38 : decode b_U_roster 38 = .ok (.ireturn, 1) := by decide +kernel
theorem d_U_connection_0 : decode b_U_connection 0 = .ok (.aload_n 0, 1) := by decide +kernel
theorem d_U_connection_1 : decode b_U_connection 1 = .ok (.iconst 0, 1) := by decide +kernel
theorem d_U_connection_2 : decode b_U_connection 2 = .ok (.putfield 87, 3) := by decide +kernel
theorem d_U_connection_5 : decode b_U_connection 5 = .ok (.iload_n 1, 1) := by decide +kernel
theorem d_U_connection_6 : decode b_U_connection 6 = .ok (.invokestatic 144, 3) := by decide +kernel
theorem d_U_connection_9 : decode b_U_connection 9 = .ok (.ifCond .ne 9, 3) := by decide +kernel
theorem d_U_connection_12 : decode b_U_connection 12 = .ok (.aload_n 0, 1) := by decide +kernel
theorem d_U_connection_13 : decode b_U_connection 13 = .ok (.iconst 1, 1) := by decide +kernel
theorem d_U_connection_14 : decode b_U_connection 14 = .ok (.invokevirtual 140, 3) := by decide +kernel
theorem d_U_connection_17 : decode b_U_connection 17 = .ok (.ireturn, 1) := by decide +kernel
theorem d_U_connection_18 : decode b_U_connection 18 = .ok (.iload_n 2, 1) := by decide +kernel
theorem d_U_connection_19 : decode b_U_connection 19 = .ok (.tableswitch 76 0 4 #[33, 40, 47, 54, 69], 33) := by decide +kernel
theorem d_U_connection_52 : decode b_U_connection 52 = .ok (.aload_n 0, 1) := by decide +kernel
theorem d_U_connection_53 : decode b_U_connection 53 = .ok (.getfield 20, 3) := by decide +kernel
theorem d_U_connection_56 : decode b_U_connection 56 = .ok (.iload_n 1, 1) := by decide +kernel
theorem d_U_connection_57 : decode b_U_connection 57 = .ok (.iaload, 1) := by decide +kernel
theorem d_U_connection_58 : decode b_U_connection 58 = .ok (.ireturn, 1) := by decide +kernel
theorem d_U_connection_59 : decode b_U_connection 59 = .ok (.aload_n 0, 1) := by decide +kernel
theorem d_U_connection_60 : decode b_U_connection 60 = .ok (.getfield 23, 3) := by decide +kernel
theorem d_U_connection_63 : decode b_U_connection 63 = .ok (.iload_n 1, 1) := by decide +kernel
theorem d_U_connection_64 : decode b_U_connection 64 = .ok (.iaload, 1) := by decide +kernel
theorem d_U_connection_65 : decode b_U_connection 65 = .ok (.ireturn, 1) := by decide +kernel
theorem d_U_connection_66 : decode b_U_connection 66 = .ok (.aload_n 0, 1) := by decide +kernel
theorem d_U_connection_67 : decode b_U_connection 67 = .ok (.getfield 26, 3) := by decide +kernel
theorem d_U_connection_70 : decode b_U_connection 70 = .ok (.iload_n 1, 1) := by decide +kernel
theorem d_U_connection_71 : decode b_U_connection 71 = .ok (.iaload, 1) := by decide +kernel
theorem d_U_connection_72 : decode b_U_connection 72 = .ok (.ireturn, 1) := by decide +kernel
theorem d_U_connection_73 : decode b_U_connection 73 = .ok (.aload_n 0, 1) := by decide +kernel
theorem d_U_connection_74 : decode b_U_connection 74 = .ok (.getfield 29, 3) := by decide +kernel
theorem d_U_connection_77 : decode b_U_connection 77 = .ok (.iload_n 1, 1) := by decide +kernel
theorem d_U_connection_78 : decode b_U_connection 78 = .ok (.baload, 1) := by decide +kernel
theorem d_U_connection_79 : decode b_U_connection 79 = .ok (.ifCond .eq 7, 3) := by decide +kernel
theorem d_U_connection_82 : decode b_U_connection 82 = .ok (.iconst 1, 1) := by decide +kernel
theorem d_U_connection_83 : decode b_U_connection 83 = .ok (.goto 4, 3) := by decide +kernel
theorem d_U_connection_86 : decode b_U_connection 86 = .ok (.iconst 0, 1) := by decide +kernel
theorem d_U_connection_87 : decode b_U_connection 87 = .ok (.ireturn, 1) := by decide +kernel
theorem d_U_connection_88 : decode b_U_connection 88 = .ok (.aload_n 0, 1) := by decide +kernel
theorem d_U_connection_89 : decode b_U_connection 89 = .ok (.getfield 50, 3) := by decide +kernel
theorem d_U_connection_92 : decode b_U_connection 92 = .ok (.iload_n 1, 1) := by decide +kernel
theorem d_U_connection_93 : decode b_U_connection 93 = .ok (.iaload, 1) := by decide +kernel
theorem d_U_connection_94 : decode b_U_connection 94 = .ok (.ireturn, 1) := by decide +kernel
theorem d_U_connection_95 : decode b_U_connection 95 = .ok (.aload_n 0, 1) := by decide +kernel
theorem d_U_connection_96 : decode b_U_connection 96 = .ok (.iconst 1, 1) := by decide +kernel
theorem d_U_connection_97 : decode b_U_connection 97 = .ok (.invokevirtual 140, 3) := by decide +kernel
theorem d_U_connection_100 : decode b_U_connection 100 = .ok (.ireturn, 1) := by decide +kernel
theorem d_U_count_0 : decode b_U_count 0 = .ok (.aload_n 0, 1) := by decide +kernel
theorem d_U_count_1 : decode b_U_count 1 = .ok (.iconst 0, 1) := by decide +kernel
theorem d_U_count_2 : decode b_U_count 2 = .ok (.putfield 87, 3) := by decide +kernel
theorem d_U_count_5 : decode b_U_count 5 = .ok (.iconst 0, 1) := by decide +kernel
theorem d_U_count_6 : decode b_U_count 6 = .ok (.istore_n 2, 1) := by decide +kernel
theorem d_U_count_7 : decode b_U_count 7 = .ok (.iload_n 1, 1) := by decide +kernel
theorem d_U_count_8 : decode b_U_count 8 = .ok (.tableswitch 80 0 3 #[32, 57, 62, 67], 32) := by decide +kernel
theorem d_U_count_40 : decode b_U_count 40 = .ok (.iconst 0, 1) := by decide +kernel
theorem d_U_count_41 : decode b_U_count 41 = .ok (.istore_n 3, 1) := by decide +kernel
theorem d_U_count_42 : decode b_U_count 42 = .ok (.iload_n 3, 1) := by decide +kernel
theorem d_U_count_43 : decode b_U_count 43 = .ok (.bipush 8, 2) := by decide +kernel
theorem d_U_count_45 : decode b_U_count 45 = .ok (.if_icmp .ge 18, 3) := by decide +kernel
theorem d_U_count_48 : decode b_U_count 48 = .ok (.iload_n 2, 1) := by decide +kernel
theorem d_U_count_49 : decode b_U_count 49 = .ok (.aload_n 0, 1) := by decide +kernel
theorem d_U_count_50 : decode b_U_count 50 = .ok (.getfield 62, 3) := by decide +kernel
theorem d_U_count_53 : decode b_U_count 53 = .ok (.iload_n 3, 1) := by decide +kernel
theorem d_U_count_54 : decode b_U_count 54 = .ok (.iaload, 1) := by decide +kernel
theorem d_U_count_55 : decode b_U_count 55 = .ok (.iadd, 1) := by decide +kernel
theorem d_U_count_56 : decode b_U_count 56 = .ok (.istore_n 2, 1) := by decide +kernel
theorem d_U_count_57 : decode b_U_count 57 = .ok (.iinc 3 1, 3) := by decide +kernel
theorem d_U_count_60 : decode b_U_count 60 = .ok (.goto (-18), 3) := by decide +kernel
theorem d_U_count_63 : decode b_U_count 63 = .ok (.iload_n 2, 1) := by decide +kernel
theorem d_U_count_64 : decode b_U_count 64 = .ok (.ireturn, 1) := by decide +kernel
theorem d_U_count_65 : decode b_U_count 65 = .ok (.aload_n 0, 1) := by decide +kernel
theorem d_U_count_66 : decode b_U_count 66 = .ok (.getfield 126, 3) := by decide +kernel
theorem d_U_count_69 : decode b_U_count 69 = .ok (.ireturn, 1) := by decide +kernel
theorem d_U_count_70 : decode b_U_count 70 = .ok (.aload_n 0, 1) := by decide +kernel
theorem d_U_count_71 : decode b_U_count 71 = .ok (.getfield 95, 3) := by decide +kernel
theorem d_U_count_74 : decode b_U_count 74 = .ok (.ireturn, 1) := by decide +kernel
theorem d_U_count_75 : decode b_U_count 75 = .ok (.aload_n 0, 1) := by decide +kernel
theorem d_U_count_76 : decode b_U_count 76 = .ok (.getfield 83, 3) := by decide +kernel
theorem d_U_count_79 : decode b_U_count 79 = .ok (.ifCond .eq 7, 3) := by decide +kernel
theorem d_U_count_82 : decode b_U_count 82 = .ok (.iconst 1, 1) := by decide +kernel
theorem d_U_count_83 : decode b_U_count 83 = .ok (.goto 4, 3) := by decide +kernel
theorem d_U_count_86 : decode b_U_count 86 = .ok (.iconst 0, 1) := by decide +kernel
theorem d_U_count_87 : decode b_U_count 87 = .ok (.ireturn, 1) := by decide +kernel
theorem d_U_count_88 : decode b_U_count 88 = .ok (.iload_n 1, 1) := by decide +kernel
theorem d_U_count_89 : decode b_U_count 89 = .ok (.iconst 4, 1) := by decide +kernel
theorem d_U_count_90 : decode b_U_count 90 = .ok (.bipush 11, 2) := by decide +kernel
theorem d_U_count_92 : decode b_U_count 92 = .ok (.invokestatic 91, 3) := by decide +kernel
theorem d_U_count_95 : decode b_U_count 95 = .ok (.ifCond .eq 14, 3) := by decide +kernel
theorem d_U_count_98 : decode b_U_count 98 = .ok (.aload_n 0, 1) := by decide +kernel
theorem d_U_count_99 : decode b_U_count 99 = .ok (.getfield 62, 3) := by decide +kernel
theorem d_U_count_102 : decode b_U_count 102 = .ok (.iload_n 1, 1) := by decide +kernel
theorem d_U_count_103 : decode b_U_count 103 = .ok (.iconst 4, 1) := by decide +kernel
theorem d_U_count_104 : decode b_U_count 104 = .ok (.isub, 1) := by decide +kernel
theorem d_U_count_105 : decode b_U_count 105 = .ok (.iaload, 1) := by decide +kernel
theorem d_U_count_106 : decode b_U_count 106 = .ok (.goto 8, 3) := by decide +kernel
theorem d_U_count_109 : decode b_U_count 109 = .ok (.aload_n 0, 1) := by decide +kernel
theorem d_U_count_110 : decode b_U_count 110 = .ok (.iconst 1, 1) := by decide +kernel
theorem d_U_count_111 : decode b_U_count 111 = .ok (.invokevirtual 140, 3) := by decide +kernel
theorem d_U_count_114 : decode b_U_count 114 = .ok (.ireturn, 1) := by decide +kernel
