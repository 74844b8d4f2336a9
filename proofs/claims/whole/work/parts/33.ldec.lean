theorem d_L_register_0 : decode b_L_register 0 = .ok (.aload_n 3, 1) := by decide +kernel
theorem d_L_register_1 : decode b_L_register 1 = .ok (.iconst 0, 1) := by decide +kernel
theorem d_L_register_2 : decode b_L_register 2 = .ok (.aload_n 0, 1) := by decide +kernel
theorem d_L_register_3 : decode b_L_register 3 = .ok (.iload_n 1, 1) := by decide +kernel
theorem d_L_register_4 : decode b_L_register 4 = .ok (.iload_n 2, 1) := by decide +kernel
theorem d_L_register_5 : decode b_L_register 5 = .ok (.invokevirtual 7, 3) := by decide +kernel
theorem d_L_register_8 : decode b_L_register 8 = .ok (.i2l, 1) := by decide +kernel
theorem d_L_register_9 : decode b_L_register 9 = .ok (.lastore, 1) := by decide +kernel
theorem d_L_register_10 : decode b_L_register 10 = .ok (.goto 11, 3) := by decide +kernel
theorem d_L_register_13 : decode b_L_register 13 = .ok (.astore 4, 2) := by decide +kernel
theorem d_L_register_15 : decode b_L_register 15 = .ok (.iconst 1, 1) := by decide +kernel
theorem d_L_register_16 : decode b_L_register 16 = .ok (.ireturn, 1) := by decide +kernel
theorem d_L_register_17 : decode b_L_register 17 = .ok (.astore 4, 2) := by decide +kernel
theorem d_L_register_19 : decode b_L_register 19 = .ok (.iconst 2, 1) := by decide +kernel
theorem d_L_register_20 : decode b_L_register 20 = .ok (.ireturn, 1) := by decide +kernel
theorem d_L_register_21 : decode b_L_register 21 = .ok (.iconst 0, 1) := by decide +kernel
theorem d_L_register_22 : decode b_L_register 22 = .ok (.ireturn, 1) := by decide +kernel
theorem d_L_connect_0 : decode b_L_connect 0 = .ok (.aload_n 2, 1) := by decide +kernel
theorem d_L_connect_1 : decode b_L_connect 1 = .ok (.iconst 0, 1) := by decide +kernel
theorem d_L_connect_2 : decode b_L_connect 2 = .ok (.aload_n 0, 1) := by decide +kernel
theorem d_L_connect_3 : decode b_L_connect 3 = .ok (.iload_n 1, 1) := by decide +kernel
theorem d_L_connect_4 : decode b_L_connect 4 = .ok (.invokevirtual 17, 3) := by decide +kernel
theorem d_L_connect_7 : decode b_L_connect 7 = .ok (.i2l, 1) := by decide +kernel
theorem d_L_connect_8 : decode b_L_connect 8 = .ok (.lastore, 1) := by decide +kernel
theorem d_L_connect_9 : decode b_L_connect 9 = .ok (.goto 9, 3) := by decide +kernel
theorem d_L_connect_12 : decode b_L_connect 12 = .ok (.astore_n 3, 1) := by decide +kernel
theorem d_L_connect_13 : decode b_L_connect 13 = .ok (.iconst 1, 1) := by decide +kernel
theorem d_L_connect_14 : decode b_L_connect 14 = .ok (.ireturn, 1) := by decide +kernel
theorem d_L_connect_15 : decode b_L_connect 15 = .ok (.astore_n 3, 1) := by decide +kernel
theorem d_L_connect_16 : decode b_L_connect 16 = .ok (.iconst 2, 1) := by decide +kernel
theorem d_L_connect_17 : decode b_L_connect 17 = .ok (.ireturn, 1) := by decide +kernel
theorem d_L_connect_18 : decode b_L_connect 18 = .ok (.iconst 0, 1) := by decide +kernel
theorem d_L_connect_19 : decode b_L_connect 19 = .ok (.ireturn, 1) := by decide +kernel
theorem d_L_login_0 : decode b_L_login 0 = .ok (.aload_n 3, 1) := by decide +kernel
theorem d_L_login_1 : decode b_L_login 1 = .ok (.iconst 0, 1) := by decide +kernel
theorem d_L_login_2 : decode b_L_login 2 = .ok (.aload_n 0, 1) := by decide +kernel
theorem d_L_login_3 : decode b_L_login 3 = .ok (.iload_n 1, 1) := by decide +kernel
theorem d_L_login_4 : decode b_L_login 4 = .ok (.iload_n 2, 1) := by decide +kernel
theorem d_L_login_5 : decode b_L_login 5 = .ok (.invokevirtual 21, 3) := by decide +kernel
theorem d_L_login_8 : decode b_L_login 8 = .ok (.i2l, 1) := by decide +kernel
theorem d_L_login_9 : decode b_L_login 9 = .ok (.lastore, 1) := by decide +kernel
theorem d_L_login_10 : decode b_L_login 10 = .ok (.goto 11, 3) := by decide +kernel
theorem d_L_login_13 : decode b_L_login 13 = .ok (.astore 4, 2) := by decide +kernel
theorem d_L_login_15 : decode b_L_login 15 = .ok (.iconst 1, 1) := by decide +kernel
theorem d_L_login_16 : decode b_L_login 16 = .ok (.ireturn, 1) := by decide +kernel
theorem d_L_login_17 : decode b_L_login 17 = .ok (.astore 4, 2) := by decide +kernel
theorem d_L_login_19 : decode b_L_login 19 = .ok (.iconst 2, 1) := by decide +kernel
theorem d_L_login_20 : decode b_L_login 20 = .ok (.ireturn, 1) := by decide +kernel
theorem d_L_login_21 : decode b_L_login 21 = .ok (.iconst 0, 1) := by decide +kernel
theorem d_L_login_22 : decode b_L_login 22 = .ok (.ireturn, 1) := by decide +kernel
theorem d_L_prove_0 : decode b_L_prove 0 = .ok (.aload_n 3, 1) := by decide +kernel
theorem d_L_prove_1 : decode b_L_prove 1 = .ok (.iconst 0, 1) := by decide +kernel
theorem d_L_prove_2 : decode b_L_prove 2 = .ok (.aload_n 0, 1) := by decide +kernel
theorem d_L_prove_3 : decode b_L_prove 3 = .ok (.iload_n 1, 1) := by decide +kernel
theorem d_L_prove_4 : decode b_L_prove 4 = .ok (.iload_n 2, 1) := by decide +kernel
theorem d_L_prove_5 : decode b_L_prove 5 = .ok (.invokevirtual 24, 3) := by decide +kernel
theorem d_L_prove_8 : decode b_L_prove 8 = .ok (.i2l, 1) := by decide +kernel
theorem d_L_prove_9 : decode b_L_prove 9 = .ok (.lastore, 1) := by decide +kernel
theorem d_L_prove_10 : decode b_L_prove 10 = .ok (.goto 15, 3) := by decide +kernel
theorem d_L_prove_13 : decode b_L_prove 13 = .ok (.astore 4, 2) := by decide +kernel
theorem d_L_prove_15 : decode b_L_prove 15 = .ok (.iconst 1, 1) := by decide +kernel
theorem d_L_prove_16 : decode b_L_prove 16 = .ok (.ireturn, 1) := by decide +kernel
theorem d_L_prove_17 : decode b_L_prove 17 = .ok (.astore 4, 2) := by decide +kernel
theorem d_L_prove_19 : decode b_L_prove 19 = .ok (.iconst 2, 1) := by decide +kernel
theorem d_L_prove_20 : decode b_L_prove 20 = .ok (.ireturn, 1) := by decide +kernel
theorem d_L_prove_21 : decode b_L_prove 21 = .ok (.astore 4, 2) := by decide +kernel
theorem d_L_prove_23 : decode b_L_prove 23 = .ok (.iconst 3, 1) := by decide +kernel
theorem d_L_prove_24 : decode b_L_prove 24 = .ok (.ireturn, 1) := by decide +kernel
theorem d_L_prove_25 : decode b_L_prove 25 = .ok (.iconst 0, 1) := by decide +kernel
theorem d_L_prove_26 : decode b_L_prove 26 = .ok (.ireturn, 1) := by decide +kernel
theorem d_L_bind_0 : decode b_L_bind 0 = .ok (.aload_n 3, 1) := by decide +kernel
theorem d_L_bind_1 : decode b_L_bind 1 = .ok (.iconst 0, 1) := by decide +kernel
theorem d_L_bind_2 : decode b_L_bind 2 = .ok (.aload_n 0, 1) := by decide +kernel
theorem d_L_bind_3 : decode b_L_bind 3 = .ok (.iload_n 1, 1) := by decide +kernel
theorem d_L_bind_4 : decode b_L_bind 4 = .ok (.iload_n 2, 1) := by decide +kernel
theorem d_L_bind_5 : decode b_L_bind 5 = .ok (.invokevirtual 29, 3) := by decide +kernel
theorem d_L_bind_8 : decode b_L_bind 8 = .ok (.i2l, 1) := by decide +kernel
theorem d_L_bind_9 : decode b_L_bind 9 = .ok (.lastore, 1) := by decide +kernel
theorem d_L_bind_10 : decode b_L_bind 10 = .ok (.goto 11, 3) := by decide +kernel
theorem d_L_bind_13 : decode b_L_bind 13 = .ok (.astore 4, 2) := by decide +kernel
theorem d_L_bind_15 : decode b_L_bind 15 = .ok (.iconst 1, 1) := by decide +kernel
theorem d_L_bind_16 : decode b_L_bind 16 = .ok (.ireturn, 1) := by decide +kernel
theorem d_L_bind_17 : decode b_L_bind 17 = .ok (.astore 4, 2) := by decide +kernel
theorem d_L_bind_19 : decode b_L_bind 19 = .ok (.iconst 2, 1) := by decide +kernel
theorem d_L_bind_20 : decode b_L_bind 20 = .ok (.ireturn, 1) := by decide +kernel
theorem d_L_bind_21 : decode b_L_bind 21 = .ok (.iconst 0, 1) := by decide +kernel
theorem d_L_bind_22 : decode b_L_bind 22 = .ok (.ireturn, 1) := by decide +kernel
theorem d_L_here_0 : decode b_L_here 0 = .ok (.aload_n 3, 1) := by decide +kernel
theorem d_L_here_1 : decode b_L_here 1 = .ok (.iconst 0, 1) := by decide +kernel
theorem d_L_here_2 : decode b_L_here 2 = .ok (.aload_n 0, 1) := by decide +kernel
theorem d_L_here_3 : decode b_L_here 3 = .ok (.iload_n 1, 1) := by decide +kernel
theorem d_L_here_4 : decode b_L_here 4 = .ok (.iload_n 2, 1) := by decide +kernel
theorem d_L_here_5 : decode b_L_here 5 = .ok (.invokevirtual 32, 3) := by decide +kernel
theorem d_L_here_8 : decode b_L_here 8 = .ok (.i2l, 1) := by decide +kernel
theorem d_L_here_9 : decode b_L_here 9 = .ok (.lastore, 1) := by decide +kernel
theorem d_L_here_10 : decode b_L_here 10 = .ok (.goto 11, 3) := by decide +kernel
theorem d_L_here_13 : decode b_L_here 13 = .ok (.astore 4, 2) := by decide +kernel
theorem d_L_here_15 : decode b_L_here 15 = .ok (.iconst 1, 1) := by decide +kernel
theorem d_L_here_16 : decode b_L_here 16 = .ok (.ireturn, 1) := by decide +kernel
theorem d_L_here_17 : decode b_L_here 17 = .ok (.astore 4, 2) := by decide +kernel
theorem d_L_here_19 : decode b_L_here 19 = .ok (.iconst 2, 1) := by decide +kernel
theorem d_L_here_20 : decode b_L_here 20 = .ok (.ireturn, 1) := by decide +kernel
theorem d_L_here_21 : decode b_L_here 21 = .ok (.iconst 0, 1) := by decide +kernel
theorem d_L_here_22 : decode b_L_here 22 = .ok (.ireturn, 1) := by decide +kernel
theorem d_L_gone_0 : decode b_L_gone 0 = .ok (.aload_n 2, 1) := by decide +kernel
theorem d_L_gone_1 : decode b_L_gone 1 = .ok (.iconst 0, 1) := by decide +kernel
theorem d_L_gone_2 : decode b_L_gone 2 = .ok (.aload_n 0, 1) := by decide +kernel
theorem d_L_gone_3 : decode b_L_gone 3 = .ok (.iload_n 1, 1) := by decide +kernel
theorem d_L_gone_4 : decode b_L_gone 4 = .ok (.invokevirtual 35, 3) := by decide +kernel
theorem d_L_gone_7 : decode b_L_gone 7 = .ok (.i2l, 1) := by decide +kernel
theorem d_L_gone_8 : decode b_L_gone 8 = .ok (.lastore, 1) := by decide +kernel
theorem d_L_gone_9 : decode b_L_gone 9 = .ok (.goto 9, 3) := by decide +kernel
theorem d_L_gone_12 : decode b_L_gone 12 = .ok (.astore_n 3, 1) := by decide +kernel
theorem d_L_gone_13 : decode b_L_gone 13 = .ok (.iconst 1, 1) := by decide +kernel
theorem d_L_gone_14 : decode b_L_gone 14 = .ok (.ireturn, 1) := by decide +kernel
theorem d_L_gone_15 : decode b_L_gone 15 = .ok (.astore_n 3, 1) := by decide +kernel
theorem d_L_gone_16 : decode b_L_gone 16 = .ok (.iconst 2, 1) := by decide +kernel
theorem d_L_gone_17 : decode b_L_gone 17 = .ok (.ireturn, 1) := by decide +kernel
theorem d_L_gone_18 : decode b_L_gone 18 = .ok (.iconst 0, 1) := by decide +kernel
theorem d_L_gone_19 : decode b_L_gone 19 = .ok (.ireturn, 1) := by decide +kernel
theorem d_L_close_0 : decode b_L_close 0 = .ok (.aload_n 2, 1) := by decide +kernel
theorem d_L_close_1 : decode b_L_close 1 = .ok (.iconst 0, 1) := by decide +kernel
theorem d_L_close_2 : decode b_L_close 2 = .ok (.aload_n 0, 1) := by decide +kernel
theorem d_L_close_3 : decode b_L_close 3 = .ok (.iload_n 1, 1) := by decide +kernel
theorem d_L_close_4 : decode b_L_close 4 = .ok (.invokevirtual 38, 3) := by decide +kernel
theorem d_L_close_7 : decode b_L_close 7 = .ok (.i2l, 1) := by decide +kernel
theorem d_L_close_8 : decode b_L_close 8 = .ok (.lastore, 1) := by decide +kernel
theorem d_L_close_9 : decode b_L_close 9 = .ok (.goto 9, 3) := by decide +kernel
theorem d_L_close_12 : decode b_L_close 12 = .ok (.astore_n 3, 1) := by decide +kernel
theorem d_L_close_13 : decode b_L_close 13 = .ok (.iconst 1, 1) := by decide +kernel
theorem d_L_close_14 : decode b_L_close 14 = .ok (.ireturn, 1) := by decide +kernel
theorem d_L_close_15 : decode b_L_close 15 = .ok (.astore_n 3, 1) := by decide +kernel
theorem d_L_close_16 : decode b_L_close 16 = .ok (.iconst 2, 1) := by decide +kernel
theorem d_L_close_17 : decode b_L_close 17 = .ok (.ireturn, 1) := by decide +kernel
theorem d_L_close_18 : decode b_L_close 18 = .ok (.iconst 0, 1) := by decide +kernel
theorem d_L_close_19 : decode b_L_close 19 = .ok (.ireturn, 1) := by decide +kernel
theorem d_L_message_0 : decode b_L_message 0 = .ok (.aload 5, 2) := by decide +kernel
theorem d_L_message_2 : decode b_L_message 2 = .ok (.iconst 0, 1) := by decide +kernel
theorem d_L_message_3 : decode b_L_message 3 = .ok (.aload_n 0, 1) := by decide +kernel
theorem d_L_message_4 : decode b_L_message 4 = .ok (.iload_n 1, 1) := by decide +kernel
theorem d_L_message_5 : decode b_L_message 5 = .ok (.iload_n 2, 1) := by decide +kernel
theorem d_L_message_6 : decode b_L_message 6 = .ok (.iload_n 3, 1) := by decide +kernel
theorem d_L_message_7 : decode b_L_message 7 = .ok (.iload 4, 2) := by decide +kernel
theorem d_L_message_9 : decode b_L_message 9 = .ok (.invokevirtual 41, 3) := by decide +kernel
theorem d_L_message_12 : decode b_L_message 12 = .ok (.i2l, 1) := by decide +kernel
theorem d_L_message_13 : decode b_L_message 13 = .ok (.lastore, 1) := by decide +kernel
theorem d_L_message_14 : decode b_L_message 14 = .ok (.goto 11, 3) := by decide +kernel
theorem d_L_message_17 : decode b_L_message 17 = .ok (.astore 6, 2) := by decide +kernel
theorem d_L_message_19 : decode b_L_message 19 = .ok (.iconst 1, 1) := by decide +kernel
theorem d_L_message_20 : decode b_L_message 20 = .ok (.ireturn, 1) := by decide +kernel
theorem d_L_message_21 : decode b_L_message 21 = .ok (.astore 6, 2) := by decide +kernel
theorem d_L_message_23 : decode b_L_message 23 = .ok (.iconst 2, 1) := by decide +kernel
theorem d_L_message_24 : decode b_L_message 24 = .ok (.ireturn, 1) := by decide +kernel
theorem d_L_message_25 : decode b_L_message 25 = .ok (.iconst 0, 1) := by decide +kernel
theorem d_L_message_26 : decode b_L_message 26 = .ok (.ireturn, 1) := by decide +kernel
theorem d_L_subscribe_0 : decode b_L_subscribe 0 = .ok (.aload 4, 2) := by decide +kernel
theorem d_L_subscribe_2 : decode b_L_subscribe 2 = .ok (.iconst 0, 1) := by decide +kernel
theorem d_L_subscribe_3 : decode b_L_subscribe 3 = .ok (.aload_n 0, 1) := by decide +kernel
theorem d_L_subscribe_4 : decode b_L_subscribe 4 = .ok (.iload_n 1, 1) := by decide +kernel
theorem d_L_subscribe_5 : decode b_L_subscribe 5 = .ok (.iload_n 2, 1) := by decide +kernel
theorem d_L_subscribe_6 : decode b_L_subscribe 6 = .ok (.iload_n 3, 1) := by decide +kernel
theorem d_L_subscribe_7 : decode b_L_subscribe 7 = .ok (.invokevirtual 45, 3) := by decide +kernel
theorem d_L_subscribe_10 : decode b_L_subscribe 10 = .ok (.i2l, 1) := by decide +kernel
theorem d_L_subscribe_11 : decode b_L_subscribe 11 = .ok (.lastore, 1) := by decide +kernel
theorem d_L_subscribe_12 : decode b_L_subscribe 12 = .ok (.goto 11, 3) := by decide +kernel
theorem d_L_subscribe_15 : decode b_L_subscribe 15 = .ok (.astore 5, 2) := by decide +kernel
theorem d_L_subscribe_17 : decode b_L_subscribe 17 = .ok (.iconst 1, 1) := by decide +kernel
theorem d_L_subscribe_18 : decode b_L_subscribe 18 = .ok (.ireturn, 1) := by decide +kernel
theorem d_L_subscribe_19 : decode b_L_subscribe 19 = .ok (.astore 5, 2) := by decide +kernel
theorem d_L_subscribe_21 : decode b_L_subscribe 21 = .ok (.iconst 2, 1) := by decide +kernel
theorem d_L_subscribe_22 : decode b_L_subscribe 22 = .ok (.ireturn, 1) := by decide +kernel
theorem d_L_subscribe_23 : decode b_L_subscribe 23 = .ok (.iconst 0, 1) := by decide +kernel
theorem d_L_subscribe_24 : decode b_L_subscribe 24 = .ok (.ireturn, 1) := by decide +kernel
theorem d_L_take_0 : decode b_L_take 0 = .ok (.aload_n 2, 1) := by decide +kernel
theorem d_L_take_1 : decode b_L_take 1 = .ok (.iconst 0, 1) := by decide +kernel
theorem d_L_take_2 : decode b_L_take 2 = .ok (.aload_n 0, 1) := by decide +kernel
theorem d_L_take_3 : decode b_L_take 3 = .ok (.iload_n 1, 1) := by decide +kernel
theorem d_L_take_4 : decode b_L_take 4 = .ok (.invokevirtual 49, 3) := by decide +kernel
theorem d_L_take_7 : decode b_L_take 7 = .ok (.i2l, 1) := by decide +kernel
theorem d_L_take_8 : decode b_L_take 8 = .ok (.lastore, 1) := by decide +kernel
theorem d_L_take_9 : decode b_L_take 9 = .ok (.goto 9, 3) := by decide +kernel
theorem d_L_take_12 : decode b_L_take 12 = .ok (.astore_n 3, 1) := by decide +kernel
theorem d_L_take_13 : decode b_L_take 13 = .ok (.iconst 1, 1) := by decide +kernel
theorem d_L_take_14 : decode b_L_take 14 = .ok (.ireturn, 1) := by decide +kernel
theorem d_L_take_15 : decode b_L_take 15 = .ok (.astore_n 3, 1) := by decide +kernel
theorem d_L_take_16 : decode b_L_take 16 = .ok (.iconst 2, 1) := by decide +kernel
theorem d_L_take_17 : decode b_L_take 17 = .ok (.ireturn, 1) := by decide +kernel
theorem d_L_take_18 : decode b_L_take 18 = .ok (.iconst 0, 1) := by decide +kernel
theorem d_L_take_19 : decode b_L_take 19 = .ok (.ireturn, 1) := by decide +kernel
theorem d_L_taken_0 : decode b_L_taken 0 = .ok (.aload_n 2, 1) := by decide +kernel
theorem d_L_taken_1 : decode b_L_taken 1 = .ok (.iconst 0, 1) := by decide +kernel
theorem d_L_taken_2 : decode b_L_taken 2 = .ok (.aload_n 0, 1) := by decide +kernel
theorem d_L_taken_3 : decode b_L_taken 3 = .ok (.iload_n 1, 1) := by decide +kernel
theorem d_L_taken_4 : decode b_L_taken 4 = .ok (.invokevirtual 54, 3) := by decide +kernel
theorem d_L_taken_7 : decode b_L_taken 7 = .ok (.i2l, 1) := by decide +kernel
theorem d_L_taken_8 : decode b_L_taken 8 = .ok (.lastore, 1) := by decide +kernel
theorem d_L_taken_9 : decode b_L_taken 9 = .ok (.goto 9, 3) := by decide +kernel
theorem d_L_taken_12 : decode b_L_taken 12 = .ok (.astore_n 3, 1) := by decide +kernel
theorem d_L_taken_13 : decode b_L_taken 13 = .ok (.iconst 1, 1) := by decide +kernel
theorem d_L_taken_14 : decode b_L_taken 14 = .ok (.ireturn, 1) := by decide +kernel
theorem d_L_taken_15 : decode b_L_taken 15 = .ok (.astore_n 3, 1) := by decide +kernel
theorem d_L_taken_16 : decode b_L_taken 16 = .ok (.iconst 2, 1) := by decide +kernel
theorem d_L_taken_17 : decode b_L_taken 17 = .ok (.ireturn, 1) := by decide +kernel
theorem d_L_taken_18 : decode b_L_taken 18 = .ok (.iconst 0, 1) := by decide +kernel
theorem d_L_taken_19 : decode b_L_taken 19 = .ok (.ireturn, 1) := by decide +kernel
theorem d_L_roster_0 : decode b_L_roster 0 = .ok (.aload_n 3, 1) := by decide +kernel
theorem d_L_roster_1 : decode b_L_roster 1 = .ok (.iconst 0, 1) := by decide +kernel
theorem d_L_roster_2 : decode b_L_roster 2 = .ok (.aload_n 0, 1) := by decide +kernel
theorem d_L_roster_3 : decode b_L_roster 3 = .ok (.iload_n 1, 1) := by decide +kernel
theorem d_L_roster_4 : decode b_L_roster 4 = .ok (.iload_n 2, 1) := by decide +kernel
theorem d_L_roster_5 : decode b_L_roster 5 = .ok (.invokevirtual 57, 3) := by decide +kernel
theorem d_L_roster_8 : decode b_L_roster 8 = .ok (.i2l, 1) := by decide +kernel
theorem d_L_roster_9 : decode b_L_roster 9 = .ok (.lastore, 1) := by decide +kernel
theorem d_L_roster_10 : decode b_L_roster 10 = .ok (.goto 7, 3) := by decide +kernel
theorem d_L_roster_13 : decode b_L_roster 13 = .ok (.astore 4, 2) := by decide +kernel
theorem d_L_roster_15 : decode b_L_roster 15 = .ok (.iconst 1, 1) := by decide +kernel
theorem d_L_roster_16 : decode b_L_roster 16 = .ok (.ireturn, 1) := by decide +kernel
theorem d_L_roster_17 : decode b_L_roster 17 = .ok (.iconst 0, 1) := by decide +kernel
theorem d_L_roster_18 : decode b_L_roster 18 = .ok (.ireturn, 1) := by decide +kernel
theorem d_L_connection_0 : decode b_L_connection 0 = .ok (.aload_n 3, 1) := by decide +kernel
theorem d_L_connection_1 : decode b_L_connection 1 = .ok (.iconst 0, 1) := by decide +kernel
theorem d_L_connection_2 : decode b_L_connection 2 = .ok (.aload_n 0, 1) := by decide +kernel
theorem d_L_connection_3 : decode b_L_connection 3 = .ok (.iload_n 1, 1) := by decide +kernel
theorem d_L_connection_4 : decode b_L_connection 4 = .ok (.iload_n 2, 1) := by decide +kernel
theorem d_L_connection_5 : decode b_L_connection 5 = .ok (.invokevirtual 60, 3) := by decide +kernel
theorem d_L_connection_8 : decode b_L_connection 8 = .ok (.i2l, 1) := by decide +kernel
theorem d_L_connection_9 : decode b_L_connection 9 = .ok (.lastore, 1) := by decide +kernel
theorem d_L_connection_10 : decode b_L_connection 10 = .ok (.goto 7, 3) := by decide +kernel
theorem d_L_connection_13 : decode b_L_connection 13 = .ok (.astore 4, 2) := by decide +kernel
theorem d_L_connection_15 : decode b_L_connection 15 = .ok (.iconst 1, 1) := by decide +kernel
theorem d_L_connection_16 : decode b_L_connection 16 = .ok (.ireturn, 1) := by decide +kernel
theorem d_L_connection_17 : decode b_L_connection 17 = .ok (.iconst 0, 1) := by decide +kernel
theorem d_L_connection_18 : decode b_L_connection 18 = .ok (.ireturn, 1) := by decide +kernel
theorem d_L_count_0 : decode b_L_count 0 = .ok (.aload_n 2, 1) := by decide +kernel
theorem d_L_count_1 : decode b_L_count 1 = .ok (.iconst 0, 1) := by decide +kernel
theorem d_L_count_2 : decode b_L_count 2 = .ok (.aload_n 0, 1) := by decide +kernel
theorem d_L_count_3 : decode b_L_count 3 = .ok (.iload_n 1, 1) := by decide +kernel
theorem d_L_count_4 : decode b_L_count 4 = .ok (.invokevirtual 63, 3) := by decide +kernel
theorem d_L_count_7 : decode b_L_count 7 = .ok (.i2l, 1) := by decide +kernel
theorem d_L_count_8 : decode b_L_count 8 = .ok (.lastore, 1) := by decide +kernel
theorem d_L_count_9 : decode b_L_count 9 = .ok (.goto 6, 3) := by decide +kernel
theorem d_L_count_12 : decode b_L_count 12 = .ok (.astore_n 3, 1) := by decide +kernel
theorem d_L_count_13 : decode b_L_count 13 = .ok (.iconst 1, 1) := by decide +kernel
theorem d_L_count_14 : decode b_L_count 14 = .ok (.ireturn, 1) := by decide +kernel
theorem d_L_count_15 : decode b_L_count 15 = .ok (.iconst 0, 1) := by decide +kernel
theorem d_L_count_16 : decode b_L_count 16 = .ok (.ireturn, 1) := by decide +kernel
theorem d_L_law_0 : decode code 0 = .ok (.new 8, 3) := by decide +kernel
theorem d_L_law_3 : decode code 3 = .ok (.dup, 1) := by decide +kernel
theorem d_L_law_4 : decode code 4 = .ok (.invokespecial 66, 3) := by decide +kernel
theorem d_L_law_7 : decode code 7 = .ok (.astore_n 1, 1) := by decide +kernel
theorem d_L_law_8 : decode code 8 = .ok (.new 67, 3) := by decide +kernel
theorem d_L_law_11 : decode code 11 = .ok (.dup, 1) := by decide +kernel
theorem d_L_law_12 : decode code 12 = .ok (.invokespecial 69, 3) := by decide +kernel
theorem d_L_law_15 : decode code 15 = .ok (.astore_n 2, 1) := by decide +kernel
theorem d_L_law_16 : decode code 16 = .ok (.iconst 1, 1) := by decide +kernel
theorem d_L_law_17 : decode code 17 = .ok (.newarray .long, 2) := by decide +kernel
theorem d_L_law_19 : decode code 19 = .ok (.astore_n 3, 1) := by decide +kernel
theorem d_L_law_20 : decode code 20 = .ok (.iconst 0, 1) := by decide +kernel
theorem d_L_law_21 : decode code 21 = .ok (.istore 4, 2) := by decide +kernel
theorem d_L_law_23 : decode code 23 = .ok (.iload 4, 2) := by decide +kernel
theorem d_L_law_25 : decode code 25 = .ok (.aload_n 0, 1) := by decide +kernel
theorem d_L_law_26 : decode code 26 = .ok (.arraylength, 1) := by decide +kernel
theorem d_L_law_27 : decode code 27 = .ok (.iconst 5, 1) := by decide +kernel
theorem d_L_law_28 : decode code 28 = .ok (.isub, 1) := by decide +kernel
theorem d_L_law_29 : decode code 29 = .ok (.if_icmp .gt 1118, 3) := by decide +kernel
theorem d_L_law_32 : decode code 32 = .ok (.aload_n 0, 1) := by decide +kernel
theorem d_L_law_33 : decode code 33 = .ok (.iload 4, 2) := by decide +kernel
theorem d_L_law_35 : decode code 35 = .ok (.iaload, 1) := by decide +kernel
theorem d_L_law_36 : decode code 36 = .ok (.bipush 15, 2) := by decide +kernel
theorem d_L_law_38 : decode code 38 = .ok (.iand, 1) := by decide +kernel
theorem d_L_law_39 : decode code 39 = .ok (.tableswitch 1102 0 15 #[77, 145, 201, 269, 337, 405, 473, 529, 585, 677, 757, 798, 854, 910, 978, 1046], 77) := by decide +kernel
theorem d_L_law_116 : decode code 116 = .ok (.aload_n 1, 1) := by decide +kernel
theorem d_L_law_117 : decode code 117 = .ok (.aload_n 0, 1) := by decide +kernel
theorem d_L_law_118 : decode code 118 = .ok (.iload 4, 2) := by decide +kernel
theorem d_L_law_120 : decode code 120 = .ok (.iconst 1, 1) := by decide +kernel
theorem d_L_law_121 : decode code 121 = .ok (.iadd, 1) := by decide +kernel
theorem d_L_law_122 : decode code 122 = .ok (.iaload, 1) := by decide +kernel
theorem d_L_law_123 : decode code 123 = .ok (.aload_n 0, 1) := by decide +kernel
theorem d_L_law_124 : decode code 124 = .ok (.iload 4, 2) := by decide +kernel
theorem d_L_law_126 : decode code 126 = .ok (.iconst 2, 1) := by decide +kernel
theorem d_L_law_127 : decode code 127 = .ok (.iadd, 1) := by decide +kernel
theorem d_L_law_128 : decode code 128 = .ok (.iaload, 1) := by decide +kernel
theorem d_L_law_129 : decode code 129 = .ok (.aload_n 3, 1) := by decide +kernel
theorem d_L_law_130 : decode code 130 = .ok (.invokestatic 70, 3) := by decide +kernel
theorem d_L_law_133 : decode code 133 = .ok (.istore 5, 2) := by decide +kernel
theorem d_L_law_135 : decode code 135 = .ok (.aload_n 2, 1) := by decide +kernel
theorem d_L_law_136 : decode code 136 = .ok (.aload_n 0, 1) := by decide +kernel
theorem d_L_law_137 : decode code 137 = .ok (.iload 4, 2) := by decide +kernel
theorem d_L_law_139 : decode code 139 = .ok (.iconst 1, 1) := by decide +kernel
theorem d_L_law_140 : decode code 140 = .ok (.iadd, 1) := by decide +kernel
theorem d_L_law_141 : decode code 141 = .ok (.iaload, 1) := by decide +kernel
theorem d_L_law_142 : decode code 142 = .ok (.aload_n 0, 1) := by decide +kernel
theorem d_L_law_143 : decode code 143 = .ok (.iload 4, 2) := by decide +kernel
theorem d_L_law_145 : decode code 145 = .ok (.iconst 2, 1) := by decide +kernel
theorem d_L_law_146 : decode code 146 = .ok (.iadd, 1) := by decide +kernel
theorem d_L_law_147 : decode code 147 = .ok (.iaload, 1) := by decide +kernel
theorem d_L_law_148 : decode code 148 = .ok (.invokevirtual 75, 3) := by decide +kernel
theorem d_L_law_151 : decode code 151 = .ok (.istore 6, 2) := by decide +kernel
theorem d_L_law_153 : decode code 153 = .ok (.aload_n 2, 1) := by decide +kernel
theorem d_L_law_154 : decode code 154 = .ok (.invokevirtual 76, 3) := by decide +kernel
theorem d_L_law_157 : decode code 157 = .ok (.iload 5, 2) := by decide +kernel
theorem d_L_law_159 : decode code 159 = .ok (.if_icmp .eq 5, 3) := by decide +kernel
theorem d_L_law_162 : decode code 162 = .ok (.iconst 0, 1) := by decide +kernel
theorem d_L_law_163 : decode code 163 = .ok (.ireturn, 1) := by decide +kernel
theorem d_L_law_164 : decode code 164 = .ok (.iload 5, 2) := by decide +kernel
theorem d_L_law_166 : decode code 166 = .ok (.ifCond .ne 15, 3) := by decide +kernel
theorem d_L_law_169 : decode code 169 = .ok (.aload_n 3, 1) := by decide +kernel
theorem d_L_law_170 : decode code 170 = .ok (.iconst 0, 1) := by decide +kernel
theorem d_L_law_171 : decode code 171 = .ok (.laload, 1) := by decide +kernel
theorem d_L_law_172 : decode code 172 = .ok (.iload 6, 2) := by decide +kernel
theorem d_L_law_174 : decode code 174 = .ok (.i2l, 1) := by decide +kernel
theorem d_L_law_175 : decode code 175 = .ok (.lcmp, 1) := by decide +kernel
theorem d_L_law_176 : decode code 176 = .ok (.ifCond .eq 5, 3) := by decide +kernel
theorem d_L_law_179 : decode code 179 = .ok (.iconst 0, 1) := by decide +kernel
theorem d_L_law_180 : decode code 180 = .ok (.ireturn, 1) := by decide +kernel
theorem d_L_law_181 : decode code 181 = .ok (.goto 960, 3) := by decide +kernel
theorem d_L_law_184 : decode code 184 = .ok (.aload_n 1, 1) := by decide +kernel
theorem d_L_law_185 : decode code 185 = .ok (.aload_n 0, 1) := by decide +kernel
theorem d_L_law_186 : decode code 186 = .ok (.iload 4, 2) := by decide +kernel
theorem d_L_law_188 : decode code 188 = .ok (.iconst 1, 1) := by decide +kernel
theorem d_L_law_189 : decode code 189 = .ok (.iadd, 1) := by decide +kernel
theorem d_L_law_190 : decode code 190 = .ok (.iaload, 1) := by decide +kernel
theorem d_L_law_191 : decode code 191 = .ok (.aload_n 3, 1) := by decide +kernel
theorem d_L_law_192 : decode code 192 = .ok (.invokestatic 80, 3) := by decide +kernel
theorem d_L_law_195 : decode code 195 = .ok (.istore 5, 2) := by decide +kernel
theorem d_L_law_197 : decode code 197 = .ok (.aload_n 2, 1) := by decide +kernel
theorem d_L_law_198 : decode code 198 = .ok (.aload_n 0, 1) := by decide +kernel
theorem d_L_law_199 : decode code 199 = .ok (.iload 4, 2) := by decide +kernel
theorem d_L_law_201 : decode code 201 = .ok (.iconst 1, 1) := by decide +kernel
theorem d_L_law_202 : decode code 202 = .ok (.iadd, 1) := by decide +kernel
theorem d_L_law_203 : decode code 203 = .ok (.iaload, 1) := by decide +kernel
theorem d_L_law_204 : decode code 204 = .ok (.invokevirtual 83, 3) := by decide +kernel
theorem d_L_law_207 : decode code 207 = .ok (.istore 6, 2) := by decide +kernel
theorem d_L_law_209 : decode code 209 = .ok (.aload_n 2, 1) := by decide +kernel
theorem d_L_law_210 : decode code 210 = .ok (.invokevirtual 76, 3) := by decide +kernel
theorem d_L_law_213 : decode code 213 = .ok (.iload 5, 2) := by decide +kernel
theorem d_L_law_215 : decode code 215 = .ok (.if_icmp .eq 5, 3) := by decide +kernel
theorem d_L_law_218 : decode code 218 = .ok (.iconst 0, 1) := by decide +kernel
theorem d_L_law_219 : decode code 219 = .ok (.ireturn, 1) := by decide +kernel
theorem d_L_law_220 : decode code 220 = .ok (.iload 5, 2) := by decide +kernel
theorem d_L_law_222 : decode code 222 = .ok (.ifCond .ne 15, 3) := by decide +kernel
theorem d_L_law_225 : decode code 225 = .ok (.aload_n 3, 1) := by decide +kernel
theorem d_L_law_226 : decode code 226 = .ok (.iconst 0, 1) := by decide +kernel
theorem d_L_law_227 : decode code 227 = .ok (.laload, 1) := by decide +kernel
theorem d_L_law_228 : decode code 228 = .ok (.iload 6, 2) := by decide +kernel
theorem d_L_law_230 : decode code 230 = .ok (.i2l, 1) := by decide +kernel
theorem d_L_law_231 : decode code 231 = .ok (.lcmp, 1) := by decide +kernel
theorem d_L_law_232 : decode code 232 = .ok (.ifCond .eq 5, 3) := by decide +kernel
theorem d_L_law_235 : decode code 235 = .ok (.iconst 0, 1) := by decide +kernel
theorem d_L_law_236 : decode code 236 = .ok (.ireturn, 1) := by decide +kernel
theorem d_L_law_237 : decode code 237 = .ok (.goto 904, 3) := by decide +kernel
theorem d_L_law_240 : decode code 240 = .ok (.aload_n 1, 1) := by decide +kernel
theorem d_L_law_241 : decode code 241 = .ok (.aload_n 0, 1) := by decide +kernel
theorem d_L_law_242 : decode code 242 = .ok (.iload 4, 2) := by decide +kernel
theorem d_L_law_244 : decode code 244 = .ok (.iconst 1, 1) := by decide +kernel
theorem d_L_law_245 : decode code 245 = .ok (.iadd, 1) := by decide +kernel
theorem d_L_law_246 : decode code 246 = .ok (.iaload, 1) := by decide +kernel
theorem d_L_law_247 : decode code 247 = .ok (.aload_n 0, 1) := by decide +kernel
theorem d_L_law_248 : decode code 248 = .ok (.iload 4, 2) := by decide +kernel
theorem d_L_law_250 : decode code 250 = .ok (.iconst 2, 1) := by decide +kernel
theorem d_L_law_251 : decode code 251 = .ok (.iadd, 1) := by decide +kernel
theorem d_L_law_252 : decode code 252 = .ok (.iaload, 1) := by decide +kernel
theorem d_L_law_253 : decode code 253 = .ok (.aload_n 3, 1) := by decide +kernel
theorem d_L_law_254 : decode code 254 = .ok (.invokestatic 84, 3) := by decide +kernel
theorem d_L_law_257 : decode code 257 = .ok (.istore 5, 2) := by decide +kernel
theorem d_L_law_259 : decode code 259 = .ok (.aload_n 2, 1) := by decide +kernel
theorem d_L_law_260 : decode code 260 = .ok (.aload_n 0, 1) := by decide +kernel
theorem d_L_law_261 : decode code 261 = .ok (.iload 4, 2) := by decide +kernel
theorem d_L_law_263 : decode code 263 = .ok (.iconst 1, 1) := by decide +kernel
theorem d_L_law_264 : decode code 264 = .ok (.iadd, 1) := by decide +kernel
theorem d_L_law_265 : decode code 265 = .ok (.iaload, 1) := by decide +kernel
theorem d_L_law_266 : decode code 266 = .ok (.aload_n 0, 1) := by decide +kernel
theorem d_L_law_267 : decode code 267 = .ok (.iload 4, 2) := by decide +kernel
theorem d_L_law_269 : decode code 269 = .ok (.iconst 2, 1) := by decide +kernel
theorem d_L_law_270 : decode code 270 = .ok (.iadd, 1) := by decide +kernel
theorem d_L_law_271 : decode code 271 = .ok (.iaload, 1) := by decide +kernel
theorem d_L_law_272 : decode code 272 = .ok (.invokevirtual 86, 3) := by decide +kernel
theorem d_L_law_275 : decode code 275 = .ok (.istore 6, 2) := by decide +kernel
theorem d_L_law_277 : decode code 277 = .ok (.aload_n 2, 1) := by decide +kernel
theorem d_L_law_278 : decode code 278 = .ok (.invokevirtual 76, 3) := by decide +kernel
theorem d_L_law_281 : decode code 281 = .ok (.iload 5, 2) := by decide +kernel
theorem d_L_law_283 : decode code 283 = .ok (.if_icmp .eq 5, 3) := by decide +kernel
theorem d_L_law_286 : decode code 286 = .ok (.iconst 0, 1) := by decide +kernel
theorem d_L_law_287 : decode code 287 = .ok (.ireturn, 1) := by decide +kernel
theorem d_L_law_288 : decode code 288 = .ok (.iload 5, 2) := by decide +kernel
theorem d_L_law_290 : decode code 290 = .ok (.ifCond .ne 15, 3) := by decide +kernel
theorem d_L_law_293 : decode code 293 = .ok (.aload_n 3, 1) := by decide +kernel
theorem d_L_law_294 : decode code 294 = .ok (.iconst 0, 1) := by decide +kernel
theorem d_L_law_295 : decode code 295 = .ok (.laload, 1) := by decide +kernel
theorem d_L_law_296 : decode code 296 = .ok (.iload 6, 2) := by decide +kernel
theorem d_L_law_298 : decode code 298 = .ok (.i2l, 1) := by decide +kernel
theorem d_L_law_299 : decode code 299 = .ok (.lcmp, 1) := by decide +kernel
theorem d_L_law_300 : decode code 300 = .ok (.ifCond .eq 5, 3) := by decide +kernel
theorem d_L_law_303 : decode code 303 = .ok (.iconst 0, 1) := by decide +kernel
theorem d_L_law_304 : decode code 304 = .ok (.ireturn, 1) := by decide +kernel
theorem d_L_law_305 : decode code 305 = .ok (.goto 836, 3) := by decide +kernel
theorem d_L_law_308 : decode code 308 = .ok (.aload_n 1, 1) := by decide +kernel
theorem d_L_law_309 : decode code 309 = .ok (.aload_n 0, 1) := by decide +kernel
theorem d_L_law_310 : decode code 310 = .ok (.iload 4, 2) := by decide +kernel
theorem d_L_law_312 : decode code 312 = .ok (.iconst 1, 1) := by decide +kernel
theorem d_L_law_313 : decode code 313 = .ok (.iadd, 1) := by decide +kernel
theorem d_L_law_314 : decode code 314 = .ok (.iaload, 1) := by decide +kernel
theorem d_L_law_315 : decode code 315 = .ok (.aload_n 0, 1) := by decide +kernel
theorem d_L_law_316 : decode code 316 = .ok (.iload 4, 2) := by decide +kernel
theorem d_L_law_318 : decode code 318 = .ok (.iconst 2, 1) := by decide +kernel
theorem d_L_law_319 : decode code 319 = .ok (.iadd, 1) := by decide +kernel
theorem d_L_law_320 : decode code 320 = .ok (.iaload, 1) := by decide +kernel
theorem d_L_law_321 : decode code 321 = .ok (.aload_n 3, 1) := by decide +kernel
theorem d_L_law_322 : decode code 322 = .ok (.invokestatic 87, 3) := by decide +kernel
theorem d_L_law_325 : decode code 325 = .ok (.istore 5, 2) := by decide +kernel
theorem d_L_law_327 : decode code 327 = .ok (.aload_n 2, 1) := by decide +kernel
theorem d_L_law_328 : decode code 328 = .ok (.aload_n 0, 1) := by decide +kernel
theorem d_L_law_329 : decode code 329 = .ok (.iload 4, 2) := by decide +kernel
theorem d_L_law_331 : decode code 331 = .ok (.iconst 1, 1) := by decide +kernel
theorem d_L_law_332 : decode code 332 = .ok (.iadd, 1) := by decide +kernel
theorem d_L_law_333 : decode code 333 = .ok (.iaload, 1) := by decide +kernel
theorem d_L_law_334 : decode code 334 = .ok (.aload_n 0, 1) := by decide +kernel
theorem d_L_law_335 : decode code 335 = .ok (.iload 4, 2) := by decide +kernel
theorem d_L_law_337 : decode code 337 = .ok (.iconst 2, 1) := by decide +kernel
theorem d_L_law_338 : decode code 338 = .ok (.iadd, 1) := by decide +kernel
theorem d_L_law_339 : decode code 339 = .ok (.iaload, 1) := by decide +kernel
theorem d_L_law_340 : decode code 340 = .ok (.invokevirtual 89, 3) := by decide +kernel
theorem d_L_law_343 : decode code 343 = .ok (.istore 6, 2) := by decide +kernel
theorem d_L_law_345 : decode code 345 = .ok (.aload_n 2, 1) := by decide +kernel
theorem d_L_law_346 : decode code 346 = .ok (.invokevirtual 76, 3) := by decide +kernel
theorem d_L_law_349 : decode code 349 = .ok (.iload 5, 2) := by decide +kernel
theorem d_L_law_351 : decode code 351 = .ok (.if_icmp .eq 5, 3) := by decide +kernel
theorem d_L_law_354 : decode code 354 = .ok (.iconst 0, 1) := by decide +kernel
theorem d_L_law_355 : decode code 355 = .ok (.ireturn, 1) := by decide +kernel
theorem d_L_law_356 : decode code 356 = .ok (.iload 5, 2) := by decide +kernel
theorem d_L_law_358 : decode code 358 = .ok (.ifCond .ne 15, 3) := by decide +kernel
theorem d_L_law_361 : decode code 361 = .ok (.aload_n 3, 1) := by decide +kernel
theorem d_L_law_362 : decode code 362 = .ok (.iconst 0, 1) := by decide +kernel
theorem d_L_law_363 : decode code 363 = .ok (.laload, 1) := by decide +kernel
theorem d_L_law_364 : decode code 364 = .ok (.iload 6, 2) := by decide +kernel
theorem d_L_law_366 : decode code 366 = .ok (.i2l, 1) := by decide +kernel
theorem d_L_law_367 : decode code 367 = .ok (.lcmp, 1) := by decide +kernel
theorem d_L_law_368 : decode code 368 = .ok (.ifCond .eq 5, 3) := by decide +kernel
theorem d_L_law_371 : decode code 371 = .ok (.iconst 0, 1) := by decide +kernel
theorem d_L_law_372 : decode code 372 = .ok (.ireturn, 1) := by decide +kernel
theorem d_L_law_373 : decode code 373 = .ok (.goto 768, 3) := by decide +kernel
theorem d_L_law_376 : decode code 376 = .ok (.aload_n 1, 1) := by decide +kernel
theorem d_L_law_377 : decode code 377 = .ok (.aload_n 0, 1) := by decide +kernel
theorem d_L_law_378 : decode code 378 = .ok (.iload 4, 2) := by decide +kernel
theorem d_L_law_380 : decode code 380 = .ok (.iconst 1, 1) := by decide +kernel
theorem d_L_law_381 : decode code 381 = .ok (.iadd, 1) := by decide +kernel
theorem d_L_law_382 : decode code 382 = .ok (.iaload, 1) := by decide +kernel
theorem d_L_law_383 : decode code 383 = .ok (.aload_n 0, 1) := by decide +kernel
theorem d_L_law_384 : decode code 384 = .ok (.iload 4, 2) := by decide +kernel
theorem d_L_law_386 : decode code 386 = .ok (.iconst 2, 1) := by decide +kernel
theorem d_L_law_387 : decode code 387 = .ok (.iadd, 1) := by decide +kernel
theorem d_L_law_388 : decode code 388 = .ok (.iaload, 1) := by decide +kernel
theorem d_L_law_389 : decode code 389 = .ok (.aload_n 3, 1) := by decide +kernel
theorem d_L_law_390 : decode code 390 = .ok (.invokestatic 90, 3) := by decide +kernel
theorem d_L_law_393 : decode code 393 = .ok (.istore 5, 2) := by decide +kernel
theorem d_L_law_395 : decode code 395 = .ok (.aload_n 2, 1) := by decide +kernel
theorem d_L_law_396 : decode code 396 = .ok (.aload_n 0, 1) := by decide +kernel
theorem d_L_law_397 : decode code 397 = .ok (.iload 4, 2) := by decide +kernel
theorem d_L_law_399 : decode code 399 = .ok (.iconst 1, 1) := by decide +kernel
theorem d_L_law_400 : decode code 400 = .ok (.iadd, 1) := by decide +kernel
theorem d_L_law_401 : decode code 401 = .ok (.iaload, 1) := by decide +kernel
theorem d_L_law_402 : decode code 402 = .ok (.aload_n 0, 1) := by decide +kernel
theorem d_L_law_403 : decode code 403 = .ok (.iload 4, 2) := by decide +kernel
theorem d_L_law_405 : decode code 405 = .ok (.iconst 2, 1) := by decide +kernel
theorem d_L_law_406 : decode code 406 = .ok (.iadd, 1) := by decide +kernel
theorem d_L_law_407 : decode code 407 = .ok (.iaload, 1) := by decide +kernel
theorem d_L_law_408 : decode code 408 = .ok (.invokevirtual 92, 3) := by decide +kernel
theorem d_L_law_411 : decode code 411 = .ok (.istore 6, 2) := by decide +kernel
theorem d_L_law_413 : decode code 413 = .ok (.aload_n 2, 1) := by decide +kernel
theorem d_L_law_414 : decode code 414 = .ok (.invokevirtual 76, 3) := by decide +kernel
theorem d_L_law_417 : decode code 417 = .ok (.iload 5, 2) := by decide +kernel
theorem d_L_law_419 : decode code 419 = .ok (.if_icmp .eq 5, 3) := by decide +kernel
theorem d_L_law_422 : decode code 422 = .ok (.iconst 0, 1) := by decide +kernel
theorem d_L_law_423 : decode code 423 = .ok (.ireturn, 1) := by decide +kernel
theorem d_L_law_424 : decode code 424 = .ok (.iload 5, 2) := by decide +kernel
theorem d_L_law_426 : decode code 426 = .ok (.ifCond .ne 15, 3) := by decide +kernel
theorem d_L_law_429 : decode code 429 = .ok (.aload_n 3, 1) := by decide +kernel
theorem d_L_law_430 : decode code 430 = .ok (.iconst 0, 1) := by decide +kernel
theorem d_L_law_431 : decode code 431 = .ok (.laload, 1) := by decide +kernel
theorem d_L_law_432 : decode code 432 = .ok (.iload 6, 2) := by decide +kernel
theorem d_L_law_434 : decode code 434 = .ok (.i2l, 1) := by decide +kernel
theorem d_L_law_435 : decode code 435 = .ok (.lcmp, 1) := by decide +kernel
theorem d_L_law_436 : decode code 436 = .ok (.ifCond .eq 5, 3) := by decide +kernel
theorem d_L_law_439 : decode code 439 = .ok (.iconst 0, 1) := by decide +kernel
theorem d_L_law_440 : decode code 440 = .ok (.ireturn, 1) := by decide +kernel
theorem d_L_law_441 : decode code 441 = .ok (.goto 700, 3) := by decide +kernel
theorem d_L_law_444 : decode code 444 = .ok (.aload_n 1, 1) := by decide +kernel
theorem d_L_law_445 : decode code 445 = .ok (.aload_n 0, 1) := by decide +kernel
theorem d_L_law_446 : decode code 446 = .ok (.iload 4, 2) := by decide +kernel
theorem d_L_law_448 : decode code 448 = .ok (.iconst 1, 1) := by decide +kernel
theorem d_L_law_449 : decode code 449 = .ok (.iadd, 1) := by decide +kernel
theorem d_L_law_450 : decode code 450 = .ok (.iaload, 1) := by decide +kernel
theorem d_L_law_451 : decode code 451 = .ok (.aload_n 0, 1) := by decide +kernel
theorem d_L_law_452 : decode code 452 = .ok (.iload 4, 2) := by decide +kernel
theorem d_L_law_454 : decode code 454 = .ok (.iconst 2, 1) := by decide +kernel
theorem d_L_law_455 : decode code 455 = .ok (.iadd, 1) := by decide +kernel
theorem d_L_law_456 : decode code 456 = .ok (.iaload, 1) := by decide +kernel
theorem d_L_law_457 : decode code 457 = .ok (.aload_n 3, 1) := by decide +kernel
theorem d_L_law_458 : decode code 458 = .ok (.invokestatic 93, 3) := by decide +kernel
theorem d_L_law_461 : decode code 461 = .ok (.istore 5, 2) := by decide +kernel
theorem d_L_law_463 : decode code 463 = .ok (.aload_n 2, 1) := by decide +kernel
theorem d_L_law_464 : decode code 464 = .ok (.aload_n 0, 1) := by decide +kernel
theorem d_L_law_465 : decode code 465 = .ok (.iload 4, 2) := by decide +kernel
theorem d_L_law_467 : decode code 467 = .ok (.iconst 1, 1) := by decide +kernel
theorem d_L_law_468 : decode code 468 = .ok (.iadd, 1) := by decide +kernel
theorem d_L_law_469 : decode code 469 = .ok (.iaload, 1) := by decide +kernel
theorem d_L_law_470 : decode code 470 = .ok (.aload_n 0, 1) := by decide +kernel
theorem d_L_law_471 : decode code 471 = .ok (.iload 4, 2) := by decide +kernel
theorem d_L_law_473 : decode code 473 = .ok (.iconst 2, 1) := by decide +kernel
theorem d_L_law_474 : decode code 474 = .ok (.iadd, 1) := by decide +kernel
theorem d_L_law_475 : decode code 475 = .ok (.iaload, 1) := by decide +kernel
theorem d_L_law_476 : decode code 476 = .ok (.invokevirtual 95, 3) := by decide +kernel
theorem d_L_law_479 : decode code 479 = .ok (.istore 6, 2) := by decide +kernel
theorem d_L_law_481 : decode code 481 = .ok (.aload_n 2, 1) := by decide +kernel
theorem d_L_law_482 : decode code 482 = .ok (.invokevirtual 76, 3) := by decide +kernel
theorem d_L_law_485 : decode code 485 = .ok (.iload 5, 2) := by decide +kernel
theorem d_L_law_487 : decode code 487 = .ok (.if_icmp .eq 5, 3) := by decide +kernel
theorem d_L_law_490 : decode code 490 = .ok (.iconst 0, 1) := by decide +kernel
theorem d_L_law_491 : decode code 491 = .ok (.ireturn, 1) := by decide +kernel
theorem d_L_law_492 : decode code 492 = .ok (.iload 5, 2) := by decide +kernel
theorem d_L_law_494 : decode code 494 = .ok (.ifCond .ne 15, 3) := by decide +kernel
theorem d_L_law_497 : decode code 497 = .ok (.aload_n 3, 1) := by decide +kernel
theorem d_L_law_498 : decode code 498 = .ok (.iconst 0, 1) := by decide +kernel
theorem d_L_law_499 : decode code 499 = .ok (.laload, 1) := by decide +kernel
theorem d_L_law_500 : decode code 500 = .ok (.iload 6, 2) := by decide +kernel
theorem d_L_law_502 : decode code 502 = .ok (.i2l, 1) := by decide +kernel
theorem d_L_law_503 : decode code 503 = .ok (.lcmp, 1) := by decide +kernel
theorem d_L_law_504 : decode code 504 = .ok (.ifCond .eq 5, 3) := by decide +kernel
theorem d_L_law_507 : decode code 507 = .ok (.iconst 0, 1) := by decide +kernel
theorem d_L_law_508 : decode code 508 = .ok (.ireturn, 1) := by decide +kernel
theorem d_L_law_509 : decode code 509 = .ok (.goto 632, 3) := by decide +kernel
theorem d_L_law_512 : decode code 512 = .ok (.aload_n 1, 1) := by decide +kernel
theorem d_L_law_513 : decode code 513 = .ok (.aload_n 0, 1) := by decide +kernel
theorem d_L_law_514 : decode code 514 = .ok (.iload 4, 2) := by decide +kernel
theorem d_L_law_516 : decode code 516 = .ok (.iconst 1, 1) := by decide +kernel
theorem d_L_law_517 : decode code 517 = .ok (.iadd, 1) := by decide +kernel
theorem d_L_law_518 : decode code 518 = .ok (.iaload, 1) := by decide +kernel
theorem d_L_law_519 : decode code 519 = .ok (.aload_n 3, 1) := by decide +kernel
theorem d_L_law_520 : decode code 520 = .ok (.invokestatic 96, 3) := by decide +kernel
theorem d_L_law_523 : decode code 523 = .ok (.istore 5, 2) := by decide +kernel
theorem d_L_law_525 : decode code 525 = .ok (.aload_n 2, 1) := by decide +kernel
theorem d_L_law_526 : decode code 526 = .ok (.aload_n 0, 1) := by decide +kernel
theorem d_L_law_527 : decode code 527 = .ok (.iload 4, 2) := by decide +kernel
theorem d_L_law_529 : decode code 529 = .ok (.iconst 1, 1) := by decide +kernel
theorem d_L_law_530 : decode code 530 = .ok (.iadd, 1) := by decide +kernel
theorem d_L_law_531 : decode code 531 = .ok (.iaload, 1) := by decide +kernel
theorem d_L_law_532 : decode code 532 = .ok (.invokevirtual 98, 3) := by decide +kernel
theorem d_L_law_535 : decode code 535 = .ok (.istore 6, 2) := by decide +kernel
theorem d_L_law_537 : decode code 537 = .ok (.aload_n 2, 1) := by decide +kernel
theorem d_L_law_538 : decode code 538 = .ok (.invokevirtual 76, 3) := by decide +kernel
theorem d_L_law_541 : decode code 541 = .ok (.iload 5, 2) := by decide +kernel
theorem d_L_law_543 : decode code 543 = .ok (.if_icmp .eq 5, 3) := by decide +kernel
theorem d_L_law_546 : decode code 546 = .ok (.iconst 0, 1) := by decide +kernel
theorem d_L_law_547 : decode code 547 = .ok (.ireturn, 1) := by decide +kernel
theorem d_L_law_548 : decode code 548 = .ok (.iload 5, 2) := by decide +kernel
theorem d_L_law_550 : decode code 550 = .ok (.ifCond .ne 15, 3) := by decide +kernel
theorem d_L_law_553 : decode code 553 = .ok (.aload_n 3, 1) := by decide +kernel
theorem d_L_law_554 : decode code 554 = .ok (.iconst 0, 1) := by decide +kernel
theorem d_L_law_555 : decode code 555 = .ok (.laload, 1) := by decide +kernel
theorem d_L_law_556 : decode code 556 = .ok (.iload 6, 2) := by decide +kernel
theorem d_L_law_558 : decode code 558 = .ok (.i2l, 1) := by decide +kernel
theorem d_L_law_559 : decode code 559 = .ok (.lcmp, 1) := by decide +kernel
theorem d_L_law_560 : decode code 560 = .ok (.ifCond .eq 5, 3) := by decide +kernel
theorem d_L_law_563 : decode code 563 = .ok (.iconst 0, 1) := by decide +kernel
theorem d_L_law_564 : decode code 564 = .ok (.ireturn, 1) := by decide +kernel
theorem d_L_law_565 : decode code 565 = .ok (.goto 576, 3) := by decide +kernel
theorem d_L_law_568 : decode code 568 = .ok (.aload_n 1, 1) := by decide +kernel
theorem d_L_law_569 : decode code 569 = .ok (.aload_n 0, 1) := by decide +kernel
theorem d_L_law_570 : decode code 570 = .ok (.iload 4, 2) := by decide +kernel
theorem d_L_law_572 : decode code 572 = .ok (.iconst 1, 1) := by decide +kernel
theorem d_L_law_573 : decode code 573 = .ok (.iadd, 1) := by decide +kernel
theorem d_L_law_574 : decode code 574 = .ok (.iaload, 1) := by decide +kernel
theorem d_L_law_575 : decode code 575 = .ok (.aload_n 3, 1) := by decide +kernel
theorem d_L_law_576 : decode code 576 = .ok (.invokestatic 99, 3) := by decide +kernel
theorem d_L_law_579 : decode code 579 = .ok (.istore 5, 2) := by decide +kernel
theorem d_L_law_581 : decode code 581 = .ok (.aload_n 2, 1) := by decide +kernel
theorem d_L_law_582 : decode code 582 = .ok (.aload_n 0, 1) := by decide +kernel
theorem d_L_law_583 : decode code 583 = .ok (.iload 4, 2) := by decide +kernel
theorem d_L_law_585 : decode code 585 = .ok (.iconst 1, 1) := by decide +kernel
theorem d_L_law_586 : decode code 586 = .ok (.iadd, 1) := by decide +kernel
theorem d_L_law_587 : decode code 587 = .ok (.iaload, 1) := by decide +kernel
theorem d_L_law_588 : decode code 588 = .ok (.invokevirtual 101, 3) := by decide +kernel
theorem d_L_law_591 : decode code 591 = .ok (.istore 6, 2) := by decide +kernel
theorem d_L_law_593 : decode code 593 = .ok (.aload_n 2, 1) := by decide +kernel
theorem d_L_law_594 : decode code 594 = .ok (.invokevirtual 76, 3) := by decide +kernel
theorem d_L_law_597 : decode code 597 = .ok (.iload 5, 2) := by decide +kernel
theorem d_L_law_599 : decode code 599 = .ok (.if_icmp .eq 5, 3) := by decide +kernel
theorem d_L_law_602 : decode code 602 = .ok (.iconst 0, 1) := by decide +kernel
theorem d_L_law_603 : decode code 603 = .ok (.ireturn, 1) := by decide +kernel
theorem d_L_law_604 : decode code 604 = .ok (.iload 5, 2) := by decide +kernel
theorem d_L_law_606 : decode code 606 = .ok (.ifCond .ne 15, 3) := by decide +kernel
theorem d_L_law_609 : decode code 609 = .ok (.aload_n 3, 1) := by decide +kernel
theorem d_L_law_610 : decode code 610 = .ok (.iconst 0, 1) := by decide +kernel
theorem d_L_law_611 : decode code 611 = .ok (.laload, 1) := by decide +kernel
theorem d_L_law_612 : decode code 612 = .ok (.iload 6, 2) := by decide +kernel
theorem d_L_law_614 : decode code 614 = .ok (.i2l, 1) := by decide +kernel
theorem d_L_law_615 : decode code 615 = .ok (.lcmp, 1) := by decide +kernel
theorem d_L_law_616 : decode code 616 = .ok (.ifCond .eq 5, 3) := by decide +kernel
theorem d_L_law_619 : decode code 619 = .ok (.iconst 0, 1) := by decide +kernel
theorem d_L_law_620 : decode code 620 = .ok (.ireturn, 1) := by decide +kernel
theorem d_L_law_621 : decode code 621 = .ok (.goto 520, 3) := by decide +kernel
theorem d_L_law_624 : decode code 624 = .ok (.aload_n 1, 1) := by decide +kernel
theorem d_L_law_625 : decode code 625 = .ok (.aload_n 0, 1) := by decide +kernel
theorem d_L_law_626 : decode code 626 = .ok (.iload 4, 2) := by decide +kernel
theorem d_L_law_628 : decode code 628 = .ok (.iconst 1, 1) := by decide +kernel
theorem d_L_law_629 : decode code 629 = .ok (.iadd, 1) := by decide +kernel
theorem d_L_law_630 : decode code 630 = .ok (.iaload, 1) := by decide +kernel
theorem d_L_law_631 : decode code 631 = .ok (.aload_n 0, 1) := by decide +kernel
theorem d_L_law_632 : decode code 632 = .ok (.iload 4, 2) := by decide +kernel
theorem d_L_law_634 : decode code 634 = .ok (.iconst 2, 1) := by decide +kernel
theorem d_L_law_635 : decode code 635 = .ok (.iadd, 1) := by decide +kernel
theorem d_L_law_636 : decode code 636 = .ok (.iaload, 1) := by decide +kernel
theorem d_L_law_637 : decode code 637 = .ok (.aload_n 0, 1) := by decide +kernel
theorem d_L_law_638 : decode code 638 = .ok (.iload 4, 2) := by decide +kernel
theorem d_L_law_640 : decode code 640 = .ok (.iconst 3, 1) := by decide +kernel
theorem d_L_law_641 : decode code 641 = .ok (.iadd, 1) := by decide +kernel
theorem d_L_law_642 : decode code 642 = .ok (.iaload, 1) := by decide +kernel
theorem d_L_law_643 : decode code 643 = .ok (.aload_n 0, 1) := by decide +kernel
theorem d_L_law_644 : decode code 644 = .ok (.iload 4, 2) := by decide +kernel
theorem d_L_law_646 : decode code 646 = .ok (.iconst 4, 1) := by decide +kernel
theorem d_L_law_647 : decode code 647 = .ok (.iadd, 1) := by decide +kernel
theorem d_L_law_648 : decode code 648 = .ok (.iaload, 1) := by decide +kernel
theorem d_L_law_649 : decode code 649 = .ok (.aload_n 3, 1) := by decide +kernel
theorem d_L_law_650 : decode code 650 = .ok (.invokestatic 102, 3) := by decide +kernel
theorem d_L_law_653 : decode code 653 = .ok (.istore 5, 2) := by decide +kernel
theorem d_L_law_655 : decode code 655 = .ok (.aload_n 2, 1) := by decide +kernel
theorem d_L_law_656 : decode code 656 = .ok (.aload_n 0, 1) := by decide +kernel
theorem d_L_law_657 : decode code 657 = .ok (.iload 4, 2) := by decide +kernel
theorem d_L_law_659 : decode code 659 = .ok (.iconst 1, 1) := by decide +kernel
theorem d_L_law_660 : decode code 660 = .ok (.iadd, 1) := by decide +kernel
theorem d_L_law_661 : decode code 661 = .ok (.iaload, 1) := by decide +kernel
theorem d_L_law_662 : decode code 662 = .ok (.aload_n 0, 1) := by decide +kernel
theorem d_L_law_663 : decode code 663 = .ok (.iload 4, 2) := by decide +kernel
theorem d_L_law_665 : decode code 665 = .ok (.iconst 2, 1) := by decide +kernel
theorem d_L_law_666 : decode code 666 = .ok (.iadd, 1) := by decide +kernel
theorem d_L_law_667 : decode code 667 = .ok (.iaload, 1) := by decide +kernel
theorem d_L_law_668 : decode code 668 = .ok (.aload_n 0, 1) := by decide +kernel
theorem d_L_law_669 : decode code 669 = .ok (.iload 4, 2) := by decide +kernel
theorem d_L_law_671 : decode code 671 = .ok (.iconst 3, 1) := by decide +kernel
theorem d_L_law_672 : decode code 672 = .ok (.iadd, 1) := by decide +kernel
theorem d_L_law_673 : decode code 673 = .ok (.iaload, 1) := by decide +kernel
theorem d_L_law_674 : decode code 674 = .ok (.aload_n 0, 1) := by decide +kernel
theorem d_L_law_675 : decode code 675 = .ok (.iload 4, 2) := by decide +kernel
theorem d_L_law_677 : decode code 677 = .ok (.iconst 4, 1) := by decide +kernel
theorem d_L_law_678 : decode code 678 = .ok (.iadd, 1) := by decide +kernel
theorem d_L_law_679 : decode code 679 = .ok (.iaload, 1) := by decide +kernel
theorem d_L_law_680 : decode code 680 = .ok (.invokevirtual 105, 3) := by decide +kernel
theorem d_L_law_683 : decode code 683 = .ok (.istore 6, 2) := by decide +kernel
theorem d_L_law_685 : decode code 685 = .ok (.aload_n 2, 1) := by decide +kernel
theorem d_L_law_686 : decode code 686 = .ok (.invokevirtual 76, 3) := by decide +kernel
theorem d_L_law_689 : decode code 689 = .ok (.iload 5, 2) := by decide +kernel
theorem d_L_law_691 : decode code 691 = .ok (.if_icmp .eq 5, 3) := by decide +kernel
theorem d_L_law_694 : decode code 694 = .ok (.iconst 0, 1) := by decide +kernel
theorem d_L_law_695 : decode code 695 = .ok (.ireturn, 1) := by decide +kernel
theorem d_L_law_696 : decode code 696 = .ok (.iload 5, 2) := by decide +kernel
theorem d_L_law_698 : decode code 698 = .ok (.ifCond .ne 15, 3) := by decide +kernel
theorem d_L_law_701 : decode code 701 = .ok (.aload_n 3, 1) := by decide +kernel
theorem d_L_law_702 : decode code 702 = .ok (.iconst 0, 1) := by decide +kernel
theorem d_L_law_703 : decode code 703 = .ok (.laload, 1) := by decide +kernel
theorem d_L_law_704 : decode code 704 = .ok (.iload 6, 2) := by decide +kernel
theorem d_L_law_706 : decode code 706 = .ok (.i2l, 1) := by decide +kernel
theorem d_L_law_707 : decode code 707 = .ok (.lcmp, 1) := by decide +kernel
theorem d_L_law_708 : decode code 708 = .ok (.ifCond .eq 5, 3) := by decide +kernel
theorem d_L_law_711 : decode code 711 = .ok (.iconst 0, 1) := by decide +kernel
theorem d_L_law_712 : decode code 712 = .ok (.ireturn, 1) := by decide +kernel
theorem d_L_law_713 : decode code 713 = .ok (.goto 428, 3) := by decide +kernel
theorem d_L_law_716 : decode code 716 = .ok (.aload_n 1, 1) := by decide +kernel
theorem d_L_law_717 : decode code 717 = .ok (.aload_n 0, 1) := by decide +kernel
theorem d_L_law_718 : decode code 718 = .ok (.iload 4, 2) := by decide +kernel
theorem d_L_law_720 : decode code 720 = .ok (.iconst 1, 1) := by decide +kernel
theorem d_L_law_721 : decode code 721 = .ok (.iadd, 1) := by decide +kernel
theorem d_L_law_722 : decode code 722 = .ok (.iaload, 1) := by decide +kernel
theorem d_L_law_723 : decode code 723 = .ok (.aload_n 0, 1) := by decide +kernel
theorem d_L_law_724 : decode code 724 = .ok (.iload 4, 2) := by decide +kernel
theorem d_L_law_726 : decode code 726 = .ok (.iconst 2, 1) := by decide +kernel
theorem d_L_law_727 : decode code 727 = .ok (.iadd, 1) := by decide +kernel
theorem d_L_law_728 : decode code 728 = .ok (.iaload, 1) := by decide +kernel
theorem d_L_law_729 : decode code 729 = .ok (.aload_n 0, 1) := by decide +kernel
theorem d_L_law_730 : decode code 730 = .ok (.iload 4, 2) := by decide +kernel
theorem d_L_law_732 : decode code 732 = .ok (.iconst 3, 1) := by decide +kernel
theorem d_L_law_733 : decode code 733 = .ok (.iadd, 1) := by decide +kernel
theorem d_L_law_734 : decode code 734 = .ok (.iaload, 1) := by decide +kernel
theorem d_L_law_735 : decode code 735 = .ok (.aload_n 3, 1) := by decide +kernel
theorem d_L_law_736 : decode code 736 = .ok (.invokestatic 106, 3) := by decide +kernel
theorem d_L_law_739 : decode code 739 = .ok (.istore 5, 2) := by decide +kernel
theorem d_L_law_741 : decode code 741 = .ok (.aload_n 2, 1) := by decide +kernel
theorem d_L_law_742 : decode code 742 = .ok (.aload_n 0, 1) := by decide +kernel
theorem d_L_law_743 : decode code 743 = .ok (.iload 4, 2) := by decide +kernel
theorem d_L_law_745 : decode code 745 = .ok (.iconst 1, 1) := by decide +kernel
theorem d_L_law_746 : decode code 746 = .ok (.iadd, 1) := by decide +kernel
theorem d_L_law_747 : decode code 747 = .ok (.iaload, 1) := by decide +kernel
theorem d_L_law_748 : decode code 748 = .ok (.aload_n 0, 1) := by decide +kernel
theorem d_L_law_749 : decode code 749 = .ok (.iload 4, 2) := by decide +kernel
theorem d_L_law_751 : decode code 751 = .ok (.iconst 2, 1) := by decide +kernel
theorem d_L_law_752 : decode code 752 = .ok (.iadd, 1) := by decide +kernel
theorem d_L_law_753 : decode code 753 = .ok (.iaload, 1) := by decide +kernel
theorem d_L_law_754 : decode code 754 = .ok (.aload_n 0, 1) := by decide +kernel
theorem d_L_law_755 : decode code 755 = .ok (.iload 4, 2) := by decide +kernel
theorem d_L_law_757 : decode code 757 = .ok (.iconst 3, 1) := by decide +kernel
theorem d_L_law_758 : decode code 758 = .ok (.iadd, 1) := by decide +kernel
theorem d_L_law_759 : decode code 759 = .ok (.iaload, 1) := by decide +kernel
theorem d_L_law_760 : decode code 760 = .ok (.invokevirtual 109, 3) := by decide +kernel
theorem d_L_law_763 : decode code 763 = .ok (.istore 6, 2) := by decide +kernel
theorem d_L_law_765 : decode code 765 = .ok (.aload_n 2, 1) := by decide +kernel
theorem d_L_law_766 : decode code 766 = .ok (.invokevirtual 76, 3) := by decide +kernel
theorem d_L_law_769 : decode code 769 = .ok (.iload 5, 2) := by decide +kernel
theorem d_L_law_771 : decode code 771 = .ok (.if_icmp .eq 5, 3) := by decide +kernel
theorem d_L_law_774 : decode code 774 = .ok (.iconst 0, 1) := by decide +kernel
theorem d_L_law_775 : decode code 775 = .ok (.ireturn, 1) := by decide +kernel
theorem d_L_law_776 : decode code 776 = .ok (.iload 5, 2) := by decide +kernel
theorem d_L_law_778 : decode code 778 = .ok (.ifCond .ne 15, 3) := by decide +kernel
theorem d_L_law_781 : decode code 781 = .ok (.aload_n 3, 1) := by decide +kernel
theorem d_L_law_782 : decode code 782 = .ok (.iconst 0, 1) := by decide +kernel
theorem d_L_law_783 : decode code 783 = .ok (.laload, 1) := by decide +kernel
theorem d_L_law_784 : decode code 784 = .ok (.iload 6, 2) := by decide +kernel
theorem d_L_law_786 : decode code 786 = .ok (.i2l, 1) := by decide +kernel
theorem d_L_law_787 : decode code 787 = .ok (.lcmp, 1) := by decide +kernel
theorem d_L_law_788 : decode code 788 = .ok (.ifCond .eq 5, 3) := by decide +kernel
theorem d_L_law_791 : decode code 791 = .ok (.iconst 0, 1) := by decide +kernel
theorem d_L_law_792 : decode code 792 = .ok (.ireturn, 1) := by decide +kernel
theorem d_L_law_793 : decode code 793 = .ok (.goto 348, 3) := by decide +kernel
theorem d_L_law_796 : decode code 796 = .ok (.aload_n 1, 1) := by decide +kernel
theorem d_L_law_797 : decode code 797 = .ok (.aload_n 0, 1) := by decide +kernel
theorem d_L_law_798 : decode code 798 = .ok (.iload 4, 2) := by decide +kernel
theorem d_L_law_800 : decode code 800 = .ok (.iconst 1, 1) := by decide +kernel
theorem d_L_law_801 : decode code 801 = .ok (.iadd, 1) := by decide +kernel
theorem d_L_law_802 : decode code 802 = .ok (.iaload, 1) := by decide +kernel
theorem d_L_law_803 : decode code 803 = .ok (.ifCond .eq 7, 3) := by decide +kernel
theorem d_L_law_806 : decode code 806 = .ok (.iconst 1, 1) := by decide +kernel
theorem d_L_law_807 : decode code 807 = .ok (.goto 4, 3) := by decide +kernel
theorem d_L_law_810 : decode code 810 = .ok (.iconst 0, 1) := by decide +kernel
theorem d_L_law_811 : decode code 811 = .ok (.invokevirtual 110, 3) := by decide +kernel
theorem d_L_law_814 : decode code 814 = .ok (.aload_n 2, 1) := by decide +kernel
theorem d_L_law_815 : decode code 815 = .ok (.aload_n 0, 1) := by decide +kernel
theorem d_L_law_816 : decode code 816 = .ok (.iload 4, 2) := by decide +kernel
theorem d_L_law_818 : decode code 818 = .ok (.iconst 1, 1) := by decide +kernel
theorem d_L_law_819 : decode code 819 = .ok (.iadd, 1) := by decide +kernel
theorem d_L_law_820 : decode code 820 = .ok (.iaload, 1) := by decide +kernel
theorem d_L_law_821 : decode code 821 = .ok (.ifCond .eq 7, 3) := by decide +kernel
theorem d_L_law_824 : decode code 824 = .ok (.iconst 1, 1) := by decide +kernel
theorem d_L_law_825 : decode code 825 = .ok (.goto 4, 3) := by decide +kernel
theorem d_L_law_828 : decode code 828 = .ok (.iconst 0, 1) := by decide +kernel
theorem d_L_law_829 : decode code 829 = .ok (.invokevirtual 114, 3) := by decide +kernel
theorem d_L_law_832 : decode code 832 = .ok (.if_icmp .eq 309, 3) := by decide +kernel
theorem d_L_law_835 : decode code 835 = .ok (.iconst 0, 1) := by decide +kernel
theorem d_L_law_836 : decode code 836 = .ok (.ireturn, 1) := by decide +kernel
theorem d_L_law_837 : decode code 837 = .ok (.aload_n 1, 1) := by decide +kernel
theorem d_L_law_838 : decode code 838 = .ok (.aload_n 0, 1) := by decide +kernel
theorem d_L_law_839 : decode code 839 = .ok (.iload 4, 2) := by decide +kernel
theorem d_L_law_841 : decode code 841 = .ok (.iconst 1, 1) := by decide +kernel
theorem d_L_law_842 : decode code 842 = .ok (.iadd, 1) := by decide +kernel
theorem d_L_law_843 : decode code 843 = .ok (.iaload, 1) := by decide +kernel
theorem d_L_law_844 : decode code 844 = .ok (.aload_n 3, 1) := by decide +kernel
theorem d_L_law_845 : decode code 845 = .ok (.invokestatic 115, 3) := by decide +kernel
theorem d_L_law_848 : decode code 848 = .ok (.istore 5, 2) := by decide +kernel
theorem d_L_law_850 : decode code 850 = .ok (.aload_n 2, 1) := by decide +kernel
theorem d_L_law_851 : decode code 851 = .ok (.aload_n 0, 1) := by decide +kernel
theorem d_L_law_852 : decode code 852 = .ok (.iload 4, 2) := by decide +kernel
theorem d_L_law_854 : decode code 854 = .ok (.iconst 1, 1) := by decide +kernel
theorem d_L_law_855 : decode code 855 = .ok (.iadd, 1) := by decide +kernel
theorem d_L_law_856 : decode code 856 = .ok (.iaload, 1) := by decide +kernel
theorem d_L_law_857 : decode code 857 = .ok (.invokevirtual 117, 3) := by decide +kernel
theorem d_L_law_860 : decode code 860 = .ok (.istore 6, 2) := by decide +kernel
theorem d_L_law_862 : decode code 862 = .ok (.aload_n 2, 1) := by decide +kernel
theorem d_L_law_863 : decode code 863 = .ok (.invokevirtual 76, 3) := by decide +kernel
theorem d_L_law_866 : decode code 866 = .ok (.iload 5, 2) := by decide +kernel
theorem d_L_law_868 : decode code 868 = .ok (.if_icmp .eq 5, 3) := by decide +kernel
theorem d_L_law_871 : decode code 871 = .ok (.iconst 0, 1) := by decide +kernel
theorem d_L_law_872 : decode code 872 = .ok (.ireturn, 1) := by decide +kernel
theorem d_L_law_873 : decode code 873 = .ok (.iload 5, 2) := by decide +kernel
theorem d_L_law_875 : decode code 875 = .ok (.ifCond .ne 15, 3) := by decide +kernel
theorem d_L_law_878 : decode code 878 = .ok (.aload_n 3, 1) := by decide +kernel
theorem d_L_law_879 : decode code 879 = .ok (.iconst 0, 1) := by decide +kernel
theorem d_L_law_880 : decode code 880 = .ok (.laload, 1) := by decide +kernel
theorem d_L_law_881 : decode code 881 = .ok (.iload 6, 2) := by decide +kernel
theorem d_L_law_883 : decode code 883 = .ok (.i2l, 1) := by decide +kernel
theorem d_L_law_884 : decode code 884 = .ok (.lcmp, 1) := by decide +kernel
theorem d_L_law_885 : decode code 885 = .ok (.ifCond .eq 5, 3) := by decide +kernel
theorem d_L_law_888 : decode code 888 = .ok (.iconst 0, 1) := by decide +kernel
theorem d_L_law_889 : decode code 889 = .ok (.ireturn, 1) := by decide +kernel
theorem d_L_law_890 : decode code 890 = .ok (.goto 251, 3) := by decide +kernel
theorem d_L_law_893 : decode code 893 = .ok (.aload_n 1, 1) := by decide +kernel
theorem d_L_law_894 : decode code 894 = .ok (.aload_n 0, 1) := by decide +kernel
theorem d_L_law_895 : decode code 895 = .ok (.iload 4, 2) := by decide +kernel
theorem d_L_law_897 : decode code 897 = .ok (.iconst 1, 1) := by decide +kernel
theorem d_L_law_898 : decode code 898 = .ok (.iadd, 1) := by decide +kernel
theorem d_L_law_899 : decode code 899 = .ok (.iaload, 1) := by decide +kernel
theorem d_L_law_900 : decode code 900 = .ok (.aload_n 3, 1) := by decide +kernel
theorem d_L_law_901 : decode code 901 = .ok (.invokestatic 118, 3) := by decide +kernel
theorem d_L_law_904 : decode code 904 = .ok (.istore 5, 2) := by decide +kernel
theorem d_L_law_906 : decode code 906 = .ok (.aload_n 2, 1) := by decide +kernel
theorem d_L_law_907 : decode code 907 = .ok (.aload_n 0, 1) := by decide +kernel
theorem d_L_law_908 : decode code 908 = .ok (.iload 4, 2) := by decide +kernel
theorem d_L_law_910 : decode code 910 = .ok (.iconst 1, 1) := by decide +kernel
theorem d_L_law_911 : decode code 911 = .ok (.iadd, 1) := by decide +kernel
theorem d_L_law_912 : decode code 912 = .ok (.iaload, 1) := by decide +kernel
theorem d_L_law_913 : decode code 913 = .ok (.invokevirtual 120, 3) := by decide +kernel
theorem d_L_law_916 : decode code 916 = .ok (.istore 6, 2) := by decide +kernel
theorem d_L_law_918 : decode code 918 = .ok (.aload_n 2, 1) := by decide +kernel
theorem d_L_law_919 : decode code 919 = .ok (.invokevirtual 76, 3) := by decide +kernel
theorem d_L_law_922 : decode code 922 = .ok (.iload 5, 2) := by decide +kernel
theorem d_L_law_924 : decode code 924 = .ok (.if_icmp .eq 5, 3) := by decide +kernel
theorem d_L_law_927 : decode code 927 = .ok (.iconst 0, 1) := by decide +kernel
theorem d_L_law_928 : decode code 928 = .ok (.ireturn, 1) := by decide +kernel
theorem d_L_law_929 : decode code 929 = .ok (.iload 5, 2) := by decide +kernel
theorem d_L_law_931 : decode code 931 = .ok (.ifCond .ne 15, 3) := by decide +kernel
theorem d_L_law_934 : decode code 934 = .ok (.aload_n 3, 1) := by decide +kernel
theorem d_L_law_935 : decode code 935 = .ok (.iconst 0, 1) := by decide +kernel
theorem d_L_law_936 : decode code 936 = .ok (.laload, 1) := by decide +kernel
theorem d_L_law_937 : decode code 937 = .ok (.iload 6, 2) := by decide +kernel
theorem d_L_law_939 : decode code 939 = .ok (.i2l, 1) := by decide +kernel
theorem d_L_law_940 : decode code 940 = .ok (.lcmp, 1) := by decide +kernel
theorem d_L_law_941 : decode code 941 = .ok (.ifCond .eq 5, 3) := by decide +kernel
theorem d_L_law_944 : decode code 944 = .ok (.iconst 0, 1) := by decide +kernel
theorem d_L_law_945 : decode code 945 = .ok (.ireturn, 1) := by decide +kernel
theorem d_L_law_946 : decode code 946 = .ok (.goto 195, 3) := by decide +kernel
theorem d_L_law_949 : decode code 949 = .ok (.aload_n 1, 1) := by decide +kernel
theorem d_L_law_950 : decode code 950 = .ok (.aload_n 0, 1) := by decide +kernel
theorem d_L_law_951 : decode code 951 = .ok (.iload 4, 2) := by decide +kernel
theorem d_L_law_953 : decode code 953 = .ok (.iconst 1, 1) := by decide +kernel
theorem d_L_law_954 : decode code 954 = .ok (.iadd, 1) := by decide +kernel
theorem d_L_law_955 : decode code 955 = .ok (.iaload, 1) := by decide +kernel
theorem d_L_law_956 : decode code 956 = .ok (.aload_n 0, 1) := by decide +kernel
theorem d_L_law_957 : decode code 957 = .ok (.iload 4, 2) := by decide +kernel
theorem d_L_law_959 : decode code 959 = .ok (.iconst 2, 1) := by decide +kernel
theorem d_L_law_960 : decode code 960 = .ok (.iadd, 1) := by decide +kernel
theorem d_L_law_961 : decode code 961 = .ok (.iaload, 1) := by decide +kernel
theorem d_L_law_962 : decode code 962 = .ok (.aload_n 3, 1) := by decide +kernel
theorem d_L_law_963 : decode code 963 = .ok (.invokestatic 121, 3) := by decide +kernel
theorem d_L_law_966 : decode code 966 = .ok (.istore 5, 2) := by decide +kernel
theorem d_L_law_968 : decode code 968 = .ok (.aload_n 2, 1) := by decide +kernel
theorem d_L_law_969 : decode code 969 = .ok (.aload_n 0, 1) := by decide +kernel
theorem d_L_law_970 : decode code 970 = .ok (.iload 4, 2) := by decide +kernel
theorem d_L_law_972 : decode code 972 = .ok (.iconst 1, 1) := by decide +kernel
theorem d_L_law_973 : decode code 973 = .ok (.iadd, 1) := by decide +kernel
theorem d_L_law_974 : decode code 974 = .ok (.iaload, 1) := by decide +kernel
theorem d_L_law_975 : decode code 975 = .ok (.aload_n 0, 1) := by decide +kernel
theorem d_L_law_976 : decode code 976 = .ok (.iload 4, 2) := by decide +kernel
theorem d_L_law_978 : decode code 978 = .ok (.iconst 2, 1) := by decide +kernel
theorem d_L_law_979 : decode code 979 = .ok (.iadd, 1) := by decide +kernel
theorem d_L_law_980 : decode code 980 = .ok (.iaload, 1) := by decide +kernel
theorem d_L_law_981 : decode code 981 = .ok (.invokevirtual 123, 3) := by decide +kernel
theorem d_L_law_984 : decode code 984 = .ok (.istore 6, 2) := by decide +kernel
theorem d_L_law_986 : decode code 986 = .ok (.aload_n 2, 1) := by decide +kernel
theorem d_L_law_987 : decode code 987 = .ok (.invokevirtual 76, 3) := by decide +kernel
theorem d_L_law_990 : decode code 990 = .ok (.iload 5, 2) := by decide +kernel
theorem d_L_law_992 : decode code 992 = .ok (.if_icmp .eq 5, 3) := by decide +kernel
theorem d_L_law_995 : decode code 995 = .ok (.iconst 0, 1) := by decide +kernel
theorem d_L_law_996 : decode code 996 = .ok (.ireturn, 1) := by decide +kernel
theorem d_L_law_997 : decode code 997 = .ok (.iload 5, 2) := by decide +kernel
theorem d_L_law_999 : decode code 999 = .ok (.ifCond .ne 15, 3) := by decide +kernel
theorem d_L_law_1002 : decode code 1002 = .ok (.aload_n 3, 1) := by decide +kernel
theorem d_L_law_1003 : decode code 1003 = .ok (.iconst 0, 1) := by decide +kernel
theorem d_L_law_1004 : decode code 1004 = .ok (.laload, 1) := by decide +kernel
theorem d_L_law_1005 : decode code 1005 = .ok (.iload 6, 2) := by decide +kernel
theorem d_L_law_1007 : decode code 1007 = .ok (.i2l, 1) := by decide +kernel
theorem d_L_law_1008 : decode code 1008 = .ok (.lcmp, 1) := by decide +kernel
theorem d_L_law_1009 : decode code 1009 = .ok (.ifCond .eq 5, 3) := by decide +kernel
theorem d_L_law_1012 : decode code 1012 = .ok (.iconst 0, 1) := by decide +kernel
theorem d_L_law_1013 : decode code 1013 = .ok (.ireturn, 1) := by decide +kernel
theorem d_L_law_1014 : decode code 1014 = .ok (.goto 127, 3) := by decide +kernel
theorem d_L_law_1017 : decode code 1017 = .ok (.aload_n 1, 1) := by decide +kernel
theorem d_L_law_1018 : decode code 1018 = .ok (.aload_n 0, 1) := by decide +kernel
theorem d_L_law_1019 : decode code 1019 = .ok (.iload 4, 2) := by decide +kernel
theorem d_L_law_1021 : decode code 1021 = .ok (.iconst 1, 1) := by decide +kernel
theorem d_L_law_1022 : decode code 1022 = .ok (.iadd, 1) := by decide +kernel
theorem d_L_law_1023 : decode code 1023 = .ok (.iaload, 1) := by decide +kernel
theorem d_L_law_1024 : decode code 1024 = .ok (.aload_n 0, 1) := by decide +kernel
theorem d_L_law_1025 : decode code 1025 = .ok (.iload 4, 2) := by decide +kernel
theorem d_L_law_1027 : decode code 1027 = .ok (.iconst 2, 1) := by decide +kernel
theorem d_L_law_1028 : decode code 1028 = .ok (.iadd, 1) := by decide +kernel
theorem d_L_law_1029 : decode code 1029 = .ok (.iaload, 1) := by decide +kernel
theorem d_L_law_1030 : decode code 1030 = .ok (.aload_n 3, 1) := by decide +kernel
theorem d_L_law_1031 : decode code 1031 = .ok (.invokestatic 124, 3) := by decide +kernel
theorem d_L_law_1034 : decode code 1034 = .ok (.istore 5, 2) := by decide +kernel
theorem d_L_law_1036 : decode code 1036 = .ok (.aload_n 2, 1) := by decide +kernel
theorem d_L_law_1037 : decode code 1037 = .ok (.aload_n 0, 1) := by decide +kernel
theorem d_L_law_1038 : decode code 1038 = .ok (.iload 4, 2) := by decide +kernel
theorem d_L_law_1040 : decode code 1040 = .ok (.iconst 1, 1) := by decide +kernel
theorem d_L_law_1041 : decode code 1041 = .ok (.iadd, 1) := by decide +kernel
theorem d_L_law_1042 : decode code 1042 = .ok (.iaload, 1) := by decide +kernel
theorem d_L_law_1043 : decode code 1043 = .ok (.aload_n 0, 1) := by decide +kernel
theorem d_L_law_1044 : decode code 1044 = .ok (.iload 4, 2) := by decide +kernel
theorem d_L_law_1046 : decode code 1046 = .ok (.iconst 2, 1) := by decide +kernel
theorem d_L_law_1047 : decode code 1047 = .ok (.iadd, 1) := by decide +kernel
theorem d_L_law_1048 : decode code 1048 = .ok (.iaload, 1) := by decide +kernel
theorem d_L_law_1049 : decode code 1049 = .ok (.invokevirtual 126, 3) := by decide +kernel
theorem d_L_law_1052 : decode code 1052 = .ok (.istore 6, 2) := by decide +kernel
theorem d_L_law_1054 : decode code 1054 = .ok (.aload_n 2, 1) := by decide +kernel
theorem d_L_law_1055 : decode code 1055 = .ok (.invokevirtual 76, 3) := by decide +kernel
theorem d_L_law_1058 : decode code 1058 = .ok (.iload 5, 2) := by decide +kernel
theorem d_L_law_1060 : decode code 1060 = .ok (.if_icmp .eq 5, 3) := by decide +kernel
theorem d_L_law_1063 : decode code 1063 = .ok (.iconst 0, 1) := by decide +kernel
theorem d_L_law_1064 : decode code 1064 = .ok (.ireturn, 1) := by decide +kernel
theorem d_L_law_1065 : decode code 1065 = .ok (.iload 5, 2) := by decide +kernel
theorem d_L_law_1067 : decode code 1067 = .ok (.ifCond .ne 15, 3) := by decide +kernel
theorem d_L_law_1070 : decode code 1070 = .ok (.aload_n 3, 1) := by decide +kernel
theorem d_L_law_1071 : decode code 1071 = .ok (.iconst 0, 1) := by decide +kernel
theorem d_L_law_1072 : decode code 1072 = .ok (.laload, 1) := by decide +kernel
theorem d_L_law_1073 : decode code 1073 = .ok (.iload 6, 2) := by decide +kernel
theorem d_L_law_1075 : decode code 1075 = .ok (.i2l, 1) := by decide +kernel
theorem d_L_law_1076 : decode code 1076 = .ok (.lcmp, 1) := by decide +kernel
theorem d_L_law_1077 : decode code 1077 = .ok (.ifCond .eq 5, 3) := by decide +kernel
theorem d_L_law_1080 : decode code 1080 = .ok (.iconst 0, 1) := by decide +kernel
theorem d_L_law_1081 : decode code 1081 = .ok (.ireturn, 1) := by decide +kernel
theorem d_L_law_1082 : decode code 1082 = .ok (.goto 59, 3) := by decide +kernel
theorem d_L_law_1085 : decode code 1085 = .ok (.aload_n 1, 1) := by decide +kernel
theorem d_L_law_1086 : decode code 1086 = .ok (.aload_n 0, 1) := by decide +kernel
theorem d_L_law_1087 : decode code 1087 = .ok (.iload 4, 2) := by decide +kernel
theorem d_L_law_1089 : decode code 1089 = .ok (.iconst 1, 1) := by decide +kernel
theorem d_L_law_1090 : decode code 1090 = .ok (.iadd, 1) := by decide +kernel
theorem d_L_law_1091 : decode code 1091 = .ok (.iaload, 1) := by decide +kernel
theorem d_L_law_1092 : decode code 1092 = .ok (.aload_n 3, 1) := by decide +kernel
theorem d_L_law_1093 : decode code 1093 = .ok (.invokestatic 127, 3) := by decide +kernel
theorem d_L_law_1096 : decode code 1096 = .ok (.istore 5, 2) := by decide +kernel
theorem d_L_law_1098 : decode code 1098 = .ok (.aload_n 2, 1) := by decide +kernel
theorem d_L_law_1099 : decode code 1099 = .ok (.aload_n 0, 1) := by decide +kernel
theorem d_L_law_1100 : decode code 1100 = .ok (.iload 4, 2) := by decide +kernel
theorem d_L_law_1102 : decode code 1102 = .ok (.iconst 1, 1) := by decide +kernel
theorem d_L_law_1103 : decode code 1103 = .ok (.iadd, 1) := by decide +kernel
theorem d_L_law_1104 : decode code 1104 = .ok (.iaload, 1) := by decide +kernel
theorem d_L_law_1105 : decode code 1105 = .ok (.invokevirtual 129, 3) := by decide +kernel
theorem d_L_law_1108 : decode code 1108 = .ok (.istore 6, 2) := by decide +kernel
theorem d_L_law_1110 : decode code 1110 = .ok (.aload_n 2, 1) := by decide +kernel
theorem d_L_law_1111 : decode code 1111 = .ok (.invokevirtual 76, 3) := by decide +kernel
theorem d_L_law_1114 : decode code 1114 = .ok (.iload 5, 2) := by decide +kernel
theorem d_L_law_1116 : decode code 1116 = .ok (.if_icmp .eq 5, 3) := by decide +kernel
theorem d_L_law_1119 : decode code 1119 = .ok (.iconst 0, 1) := by decide +kernel
theorem d_L_law_1120 : decode code 1120 = .ok (.ireturn, 1) := by decide +kernel
theorem d_L_law_1121 : decode code 1121 = .ok (.iload 5, 2) := by decide +kernel
theorem d_L_law_1123 : decode code 1123 = .ok (.ifCond .ne 15, 3) := by decide +kernel
theorem d_L_law_1126 : decode code 1126 = .ok (.aload_n 3, 1) := by decide +kernel
theorem d_L_law_1127 : decode code 1127 = .ok (.iconst 0, 1) := by decide +kernel
theorem d_L_law_1128 : decode code 1128 = .ok (.laload, 1) := by decide +kernel
theorem d_L_law_1129 : decode code 1129 = .ok (.iload 6, 2) := by decide +kernel
theorem d_L_law_1131 : decode code 1131 = .ok (.i2l, 1) := by decide +kernel
theorem d_L_law_1132 : decode code 1132 = .ok (.lcmp, 1) := by decide +kernel
theorem d_L_law_1133 : decode code 1133 = .ok (.ifCond .eq 5, 3) := by decide +kernel
theorem d_L_law_1136 : decode code 1136 = .ok (.iconst 0, 1) := by decide +kernel
theorem d_L_law_1137 : decode code 1137 = .ok (.ireturn, 1) := by decide +kernel
theorem d_L_law_1138 : decode code 1138 = .ok (.goto 3, 3) := by decide +kernel
theorem d_L_law_1141 : decode code 1141 = .ok (.iinc 4 5, 3) := by decide +kernel
theorem d_L_law_1144 : decode code 1144 = .ok (.goto (-1121), 3) := by decide +kernel
theorem d_L_law_1147 : decode code 1147 = .ok (.iconst 1, 1) := by decide +kernel
theorem d_L_law_1148 : decode code 1148 = .ok (.ireturn, 1) := by decide +kernel
theorem hd_L_register : y_L_register.cls ≠ "java/lang/invoke/MethodHandle" ∧ y_L_register.cls ≠ "java/lang/invoke/VarHandle" ∧ (parseMethodDescriptor y_L_register.desc).map (fun d => d.parameters.length) = some 4 := by decide +kernel
theorem hd_L_connect : y_L_connect.cls ≠ "java/lang/invoke/MethodHandle" ∧ y_L_connect.cls ≠ "java/lang/invoke/VarHandle" ∧ (parseMethodDescriptor y_L_connect.desc).map (fun d => d.parameters.length) = some 3 := by decide +kernel
theorem hd_L_login : y_L_login.cls ≠ "java/lang/invoke/MethodHandle" ∧ y_L_login.cls ≠ "java/lang/invoke/VarHandle" ∧ (parseMethodDescriptor y_L_login.desc).map (fun d => d.parameters.length) = some 4 := by decide +kernel
theorem hd_L_prove : y_L_prove.cls ≠ "java/lang/invoke/MethodHandle" ∧ y_L_prove.cls ≠ "java/lang/invoke/VarHandle" ∧ (parseMethodDescriptor y_L_prove.desc).map (fun d => d.parameters.length) = some 4 := by decide +kernel
theorem hd_L_bind : y_L_bind.cls ≠ "java/lang/invoke/MethodHandle" ∧ y_L_bind.cls ≠ "java/lang/invoke/VarHandle" ∧ (parseMethodDescriptor y_L_bind.desc).map (fun d => d.parameters.length) = some 4 := by decide +kernel
theorem hd_L_here : y_L_here.cls ≠ "java/lang/invoke/MethodHandle" ∧ y_L_here.cls ≠ "java/lang/invoke/VarHandle" ∧ (parseMethodDescriptor y_L_here.desc).map (fun d => d.parameters.length) = some 4 := by decide +kernel
theorem hd_L_gone : y_L_gone.cls ≠ "java/lang/invoke/MethodHandle" ∧ y_L_gone.cls ≠ "java/lang/invoke/VarHandle" ∧ (parseMethodDescriptor y_L_gone.desc).map (fun d => d.parameters.length) = some 3 := by decide +kernel
theorem hd_L_close : y_L_close.cls ≠ "java/lang/invoke/MethodHandle" ∧ y_L_close.cls ≠ "java/lang/invoke/VarHandle" ∧ (parseMethodDescriptor y_L_close.desc).map (fun d => d.parameters.length) = some 3 := by decide +kernel
theorem hd_L_message : y_L_message.cls ≠ "java/lang/invoke/MethodHandle" ∧ y_L_message.cls ≠ "java/lang/invoke/VarHandle" ∧ (parseMethodDescriptor y_L_message.desc).map (fun d => d.parameters.length) = some 6 := by decide +kernel
theorem hd_L_subscribe : y_L_subscribe.cls ≠ "java/lang/invoke/MethodHandle" ∧ y_L_subscribe.cls ≠ "java/lang/invoke/VarHandle" ∧ (parseMethodDescriptor y_L_subscribe.desc).map (fun d => d.parameters.length) = some 5 := by decide +kernel
theorem hd_L_take : y_L_take.cls ≠ "java/lang/invoke/MethodHandle" ∧ y_L_take.cls ≠ "java/lang/invoke/VarHandle" ∧ (parseMethodDescriptor y_L_take.desc).map (fun d => d.parameters.length) = some 3 := by decide +kernel
theorem hd_L_taken : y_L_taken.cls ≠ "java/lang/invoke/MethodHandle" ∧ y_L_taken.cls ≠ "java/lang/invoke/VarHandle" ∧ (parseMethodDescriptor y_L_taken.desc).map (fun d => d.parameters.length) = some 3 := by decide +kernel
theorem hd_L_roster : y_L_roster.cls ≠ "java/lang/invoke/MethodHandle" ∧ y_L_roster.cls ≠ "java/lang/invoke/VarHandle" ∧ (parseMethodDescriptor y_L_roster.desc).map (fun d => d.parameters.length) = some 4 := by decide +kernel
theorem hd_L_connection : y_L_connection.cls ≠ "java/lang/invoke/MethodHandle" ∧ y_L_connection.cls ≠ "java/lang/invoke/VarHandle" ∧ (parseMethodDescriptor y_L_connection.desc).map (fun d => d.parameters.length) = some 4 := by decide +kernel
theorem hd_L_count : y_L_count.cls ≠ "java/lang/invoke/MethodHandle" ∧ y_L_count.cls ≠ "java/lang/invoke/VarHandle" ∧ (parseMethodDescriptor y_L_count.desc).map (fun d => d.parameters.length) = some 3 := by decide +kernel
