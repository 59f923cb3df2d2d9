theorem dL_cell_0 : decode cL_cell 0 = .ok (.iload_n 1, 1) := by decide +kernel
theorem dL_cell_1 : decode cL_cell 1 = .ok (.aload_n 0, 1) := by decide +kernel
theorem dL_cell_2 : decode cL_cell 2 = .ok (.arraylength, 1) := by decide +kernel
theorem dL_cell_3 : decode cL_cell 3 = .ok (.if_icmp .ge 9, 3) := by decide +kernel
theorem dL_cell_6 : decode cL_cell 6 = .ok (.aload_n 0, 1) := by decide +kernel
theorem dL_cell_7 : decode cL_cell 7 = .ok (.iload_n 1, 1) := by decide +kernel
theorem dL_cell_8 : decode cL_cell 8 = .ok (.iaload, 1) := by decide +kernel
theorem dL_cell_9 : decode cL_cell 9 = .ok (.goto 10, 3) := by decide +kernel
theorem dL_cell_12 : decode cL_cell 12 = .ok (.ldc 7, 2) := by decide +kernel
theorem dL_cell_14 : decode cL_cell 14 = .ok (.iload_n 1, 1) := by decide +kernel
theorem dL_cell_15 : decode cL_cell 15 = .ok (.bipush 11, 2) := by decide +kernel
theorem dL_cell_17 : decode cL_cell 17 = .ok (.iadd, 1) := by decide +kernel
theorem dL_cell_18 : decode cL_cell 18 = .ok (.imul, 1) := by decide +kernel
theorem dL_cell_19 : decode cL_cell 19 = .ok (.ireturn, 1) := by decide +kernel
theorem dL_low_0 : decode cL_low 0 = .ok (.iload_n 0, 1) := by decide +kernel
theorem dL_low_1 : decode cL_low 1 = .ok (.iconst 1, 1) := by decide +kernel
theorem dL_low_2 : decode cL_low 2 = .ok (.iushr, 1) := by decide +kernel
theorem dL_low_3 : decode cL_low 3 = .ok (.iload_n 1, 1) := by decide +kernel
theorem dL_low_4 : decode cL_low 4 = .ok (.irem, 1) := by decide +kernel
theorem dL_low_5 : decode cL_low 5 = .ok (.ireturn, 1) := by decide +kernel
theorem dL_reach_0 : decode cL_reach 0 = .ok (.aload_n 0, 1) := by decide +kernel
theorem dL_reach_1 : decode cL_reach 1 = .ok (.iload_n 1, 1) := by decide +kernel
theorem dL_reach_2 : decode cL_reach 2 = .ok (.iload_n 2, 1) := by decide +kernel
theorem dL_reach_3 : decode cL_reach 3 = .ok (.invokevirtual 8, 3) := by decide +kernel
theorem dL_reach_6 : decode cL_reach 6 = .ok (.istore_n 3, 1) := by decide +kernel
theorem dL_reach_7 : decode cL_reach 7 = .ok (.goto 15, 3) := by decide +kernel
theorem dL_reach_10 : decode cL_reach 10 = .ok (.astore 4, 2) := by decide +kernel
theorem dL_reach_12 : decode cL_reach 12 = .ok (.sipush (-7100), 3) := by decide +kernel
theorem dL_reach_15 : decode cL_reach 15 = .ok (.ireturn, 1) := by decide +kernel
theorem dL_reach_16 : decode cL_reach 16 = .ok (.astore 4, 2) := by decide +kernel
theorem dL_reach_18 : decode cL_reach 18 = .ok (.sipush (-7200), 3) := by decide +kernel
theorem dL_reach_21 : decode cL_reach 21 = .ok (.ireturn, 1) := by decide +kernel
theorem dL_reach_22 : decode cL_reach 22 = .ok (.iload_n 3, 1) := by decide +kernel
theorem dL_reach_23 : decode cL_reach 23 = .ok (.ireturn, 1) := by decide +kernel
theorem dL_dead_0 : decode cL_dead 0 = .ok (.aload_n 0, 1) := by decide +kernel
theorem dL_dead_1 : decode cL_dead 1 = .ok (.iload_n 1, 1) := by decide +kernel
theorem dL_dead_2 : decode cL_dead 2 = .ok (.iload_n 2, 1) := by decide +kernel
theorem dL_dead_3 : decode cL_dead 3 = .ok (.invokevirtual 18, 3) := by decide +kernel
theorem dL_dead_6 : decode cL_dead 6 = .ok (.istore_n 3, 1) := by decide +kernel
theorem dL_dead_7 : decode cL_dead 7 = .ok (.goto 9, 3) := by decide +kernel
theorem dL_dead_10 : decode cL_dead 10 = .ok (.astore 4, 2) := by decide +kernel
theorem dL_dead_12 : decode cL_dead 12 = .ok (.sipush (-7100), 3) := by decide +kernel
theorem dL_dead_15 : decode cL_dead 15 = .ok (.ireturn, 1) := by decide +kernel
theorem dL_dead_16 : decode cL_dead 16 = .ok (.iload_n 3, 1) := by decide +kernel
theorem dL_dead_17 : decode cL_dead 17 = .ok (.ifCond .eq 7, 3) := by decide +kernel
theorem dL_dead_20 : decode cL_dead 20 = .ok (.iconst 1, 1) := by decide +kernel
theorem dL_dead_21 : decode cL_dead 21 = .ok (.goto 4, 3) := by decide +kernel
theorem dL_dead_24 : decode cL_dead 24 = .ok (.iconst 0, 1) := by decide +kernel
theorem dL_dead_25 : decode cL_dead 25 = .ok (.ireturn, 1) := by decide +kernel
theorem dL_agree_0 : decode cL_agree 0 = .ok (.aload_n 0, 1) := by decide +kernel
theorem dL_agree_1 : decode cL_agree 1 = .ok (.iload_n 1, 1) := by decide +kernel
theorem dL_agree_2 : decode cL_agree 2 = .ok (.iload_n 2, 1) := by decide +kernel
theorem dL_agree_3 : decode cL_agree 3 = .ok (.iload_n 3, 1) := by decide +kernel
theorem dL_agree_4 : decode cL_agree 4 = .ok (.iload 4, 2) := by decide +kernel
theorem dL_agree_6 : decode cL_agree 6 = .ok (.iload 5, 2) := by decide +kernel
theorem dL_agree_8 : decode cL_agree 8 = .ok (.iload 6, 2) := by decide +kernel
theorem dL_agree_10 : decode cL_agree 10 = .ok (.iload 7, 2) := by decide +kernel
theorem dL_agree_12 : decode cL_agree 12 = .ok (.invokevirtual 22, 3) := by decide +kernel
theorem dL_agree_15 : decode cL_agree 15 = .ok (.istore 8, 2) := by decide +kernel
theorem dL_agree_17 : decode cL_agree 17 = .ok (.goto 21, 3) := by decide +kernel
theorem dL_agree_20 : decode cL_agree 20 = .ok (.astore 9, 2) := by decide +kernel
theorem dL_agree_22 : decode cL_agree 22 = .ok (.sipush (-7100), 3) := by decide +kernel
theorem dL_agree_25 : decode cL_agree 25 = .ok (.ireturn, 1) := by decide +kernel
theorem dL_agree_26 : decode cL_agree 26 = .ok (.astore 9, 2) := by decide +kernel
theorem dL_agree_28 : decode cL_agree 28 = .ok (.sipush (-7200), 3) := by decide +kernel
theorem dL_agree_31 : decode cL_agree 31 = .ok (.ireturn, 1) := by decide +kernel
theorem dL_agree_32 : decode cL_agree 32 = .ok (.astore 9, 2) := by decide +kernel
theorem dL_agree_34 : decode cL_agree 34 = .ok (.sipush (-7300), 3) := by decide +kernel
theorem dL_agree_37 : decode cL_agree 37 = .ok (.ireturn, 1) := by decide +kernel
theorem dL_agree_38 : decode cL_agree 38 = .ok (.iload 8, 2) := by decide +kernel
theorem dL_agree_40 : decode cL_agree 40 = .ok (.ireturn, 1) := by decide +kernel
theorem dL_steer_0 : decode cL_steer 0 = .ok (.aload_n 0, 1) := by decide +kernel
theorem dL_steer_1 : decode cL_steer 1 = .ok (.iload_n 1, 1) := by decide +kernel
theorem dL_steer_2 : decode cL_steer 2 = .ok (.iload_n 2, 1) := by decide +kernel
theorem dL_steer_3 : decode cL_steer 3 = .ok (.invokevirtual 28, 3) := by decide +kernel
theorem dL_steer_6 : decode cL_steer 6 = .ok (.istore_n 3, 1) := by decide +kernel
theorem dL_steer_7 : decode cL_steer 7 = .ok (.goto 15, 3) := by decide +kernel
theorem dL_steer_10 : decode cL_steer 10 = .ok (.astore 4, 2) := by decide +kernel
theorem dL_steer_12 : decode cL_steer 12 = .ok (.sipush (-7100), 3) := by decide +kernel
theorem dL_steer_15 : decode cL_steer 15 = .ok (.ireturn, 1) := by decide +kernel
theorem dL_steer_16 : decode cL_steer 16 = .ok (.astore 4, 2) := by decide +kernel
theorem dL_steer_18 : decode cL_steer 18 = .ok (.sipush (-7200), 3) := by decide +kernel
theorem dL_steer_21 : decode cL_steer 21 = .ok (.ireturn, 1) := by decide +kernel
theorem dL_steer_22 : decode cL_steer 22 = .ok (.iload_n 3, 1) := by decide +kernel
theorem dL_steer_23 : decode cL_steer 23 = .ok (.ireturn, 1) := by decide +kernel
theorem dL_prices_0 : decode cL_prices 0 = .ok (.aload_n 0, 1) := by decide +kernel
theorem dL_prices_1 : decode cL_prices 1 = .ok (.iload_n 1, 1) := by decide +kernel
theorem dL_prices_2 : decode cL_prices 2 = .ok (.iload_n 2, 1) := by decide +kernel
theorem dL_prices_3 : decode cL_prices 3 = .ok (.iload_n 3, 1) := by decide +kernel
theorem dL_prices_4 : decode cL_prices 4 = .ok (.iload 4, 2) := by decide +kernel
theorem dL_prices_6 : decode cL_prices 6 = .ok (.invokevirtual 31, 3) := by decide +kernel
theorem dL_prices_9 : decode cL_prices 9 = .ok (.goto 15, 3) := by decide +kernel
theorem dL_prices_12 : decode cL_prices 12 = .ok (.astore 5, 2) := by decide +kernel
theorem dL_prices_14 : decode cL_prices 14 = .ok (.sipush (-7100), 3) := by decide +kernel
theorem dL_prices_17 : decode cL_prices 17 = .ok (.ireturn, 1) := by decide +kernel
theorem dL_prices_18 : decode cL_prices 18 = .ok (.astore 5, 2) := by decide +kernel
theorem dL_prices_20 : decode cL_prices 20 = .ok (.sipush (-7200), 3) := by decide +kernel
theorem dL_prices_23 : decode cL_prices 23 = .ok (.ireturn, 1) := by decide +kernel
theorem dL_prices_24 : decode cL_prices 24 = .ok (.iconst 0, 1) := by decide +kernel
theorem dL_prices_25 : decode cL_prices 25 = .ok (.ireturn, 1) := by decide +kernel
theorem dL_lose_0 : decode cL_lose 0 = .ok (.aload_n 0, 1) := by decide +kernel
theorem dL_lose_1 : decode cL_lose 1 = .ok (.iload_n 1, 1) := by decide +kernel
theorem dL_lose_2 : decode cL_lose 2 = .ok (.iload_n 2, 1) := by decide +kernel
theorem dL_lose_3 : decode cL_lose 3 = .ok (.invokevirtual 35, 3) := by decide +kernel
theorem dL_lose_6 : decode cL_lose 6 = .ok (.istore_n 3, 1) := by decide +kernel
theorem dL_lose_7 : decode cL_lose 7 = .ok (.goto 15, 3) := by decide +kernel
theorem dL_lose_10 : decode cL_lose 10 = .ok (.astore 4, 2) := by decide +kernel
theorem dL_lose_12 : decode cL_lose 12 = .ok (.sipush (-7100), 3) := by decide +kernel
theorem dL_lose_15 : decode cL_lose 15 = .ok (.ireturn, 1) := by decide +kernel
theorem dL_lose_16 : decode cL_lose 16 = .ok (.astore 4, 2) := by decide +kernel
theorem dL_lose_18 : decode cL_lose 18 = .ok (.sipush (-7200), 3) := by decide +kernel
theorem dL_lose_21 : decode cL_lose 21 = .ok (.ireturn, 1) := by decide +kernel
theorem dL_lose_22 : decode cL_lose 22 = .ok (.iload_n 3, 1) := by decide +kernel
theorem dL_lose_23 : decode cL_lose 23 = .ok (.ireturn, 1) := by decide +kernel
theorem dL_crash_0 : decode cL_crash 0 = .ok (.aload_n 0, 1) := by decide +kernel
theorem dL_crash_1 : decode cL_crash 1 = .ok (.iload_n 1, 1) := by decide +kernel
theorem dL_crash_2 : decode cL_crash 2 = .ok (.invokevirtual 38, 3) := by decide +kernel
theorem dL_crash_5 : decode cL_crash 5 = .ok (.istore_n 2, 1) := by decide +kernel
theorem dL_crash_6 : decode cL_crash 6 = .ok (.goto 8, 3) := by decide +kernel
theorem dL_crash_9 : decode cL_crash 9 = .ok (.astore_n 3, 1) := by decide +kernel
theorem dL_crash_10 : decode cL_crash 10 = .ok (.sipush (-7100), 3) := by decide +kernel
theorem dL_crash_13 : decode cL_crash 13 = .ok (.ireturn, 1) := by decide +kernel
theorem dL_crash_14 : decode cL_crash 14 = .ok (.iload_n 2, 1) := by decide +kernel
theorem dL_crash_15 : decode cL_crash 15 = .ok (.ireturn, 1) := by decide +kernel
theorem dL_subscriber_0 : decode cL_subscriber 0 = .ok (.aload_n 0, 1) := by decide +kernel
theorem dL_subscriber_1 : decode cL_subscriber 1 = .ok (.iload_n 1, 1) := by decide +kernel
theorem dL_subscriber_2 : decode cL_subscriber 2 = .ok (.iload_n 2, 1) := by decide +kernel
theorem dL_subscriber_3 : decode cL_subscriber 3 = .ok (.iload_n 3, 1) := by decide +kernel
theorem dL_subscriber_4 : decode cL_subscriber 4 = .ok (.invokevirtual 42, 3) := by decide +kernel
theorem dL_subscriber_7 : decode cL_subscriber 7 = .ok (.istore 4, 2) := by decide +kernel
theorem dL_subscriber_9 : decode cL_subscriber 9 = .ok (.goto 21, 3) := by decide +kernel
theorem dL_subscriber_12 : decode cL_subscriber 12 = .ok (.astore 5, 2) := by decide +kernel
theorem dL_subscriber_14 : decode cL_subscriber 14 = .ok (.sipush (-7100), 3) := by decide +kernel
theorem dL_subscriber_17 : decode cL_subscriber 17 = .ok (.ireturn, 1) := by decide +kernel
theorem dL_subscriber_18 : decode cL_subscriber 18 = .ok (.astore 5, 2) := by decide +kernel
theorem dL_subscriber_20 : decode cL_subscriber 20 = .ok (.sipush (-7200), 3) := by decide +kernel
theorem dL_subscriber_23 : decode cL_subscriber 23 = .ok (.ireturn, 1) := by decide +kernel
theorem dL_subscriber_24 : decode cL_subscriber 24 = .ok (.astore 5, 2) := by decide +kernel
theorem dL_subscriber_26 : decode cL_subscriber 26 = .ok (.sipush (-7300), 3) := by decide +kernel
theorem dL_subscriber_29 : decode cL_subscriber 29 = .ok (.ireturn, 1) := by decide +kernel
theorem dL_subscriber_30 : decode cL_subscriber 30 = .ok (.iload 4, 2) := by decide +kernel
theorem dL_subscriber_32 : decode cL_subscriber 32 = .ok (.ireturn, 1) := by decide +kernel
theorem dL_move_0 : decode cL_move 0 = .ok (.aload_n 0, 1) := by decide +kernel
theorem dL_move_1 : decode cL_move 1 = .ok (.iload_n 1, 1) := by decide +kernel
theorem dL_move_2 : decode cL_move 2 = .ok (.iload_n 2, 1) := by decide +kernel
theorem dL_move_3 : decode cL_move 3 = .ok (.invokevirtual 46, 3) := by decide +kernel
theorem dL_move_6 : decode cL_move 6 = .ok (.istore_n 3, 1) := by decide +kernel
theorem dL_move_7 : decode cL_move 7 = .ok (.goto 9, 3) := by decide +kernel
theorem dL_move_10 : decode cL_move 10 = .ok (.astore 4, 2) := by decide +kernel
theorem dL_move_12 : decode cL_move 12 = .ok (.sipush (-7100), 3) := by decide +kernel
theorem dL_move_15 : decode cL_move 15 = .ok (.ireturn, 1) := by decide +kernel
theorem dL_move_16 : decode cL_move 16 = .ok (.iload_n 3, 1) := by decide +kernel
theorem dL_move_17 : decode cL_move 17 = .ok (.ireturn, 1) := by decide +kernel
theorem dL_off_0 : decode cL_off 0 = .ok (.aload_n 0, 1) := by decide +kernel
theorem dL_off_1 : decode cL_off 1 = .ok (.iload_n 1, 1) := by decide +kernel
theorem dL_off_2 : decode cL_off 2 = .ok (.invokevirtual 49, 3) := by decide +kernel
theorem dL_off_5 : decode cL_off 5 = .ok (.istore_n 2, 1) := by decide +kernel
theorem dL_off_6 : decode cL_off 6 = .ok (.goto 8, 3) := by decide +kernel
theorem dL_off_9 : decode cL_off 9 = .ok (.astore_n 3, 1) := by decide +kernel
theorem dL_off_10 : decode cL_off 10 = .ok (.sipush (-7100), 3) := by decide +kernel
theorem dL_off_13 : decode cL_off 13 = .ok (.ireturn, 1) := by decide +kernel
theorem dL_off_14 : decode cL_off 14 = .ok (.iload_n 2, 1) := by decide +kernel
theorem dL_off_15 : decode cL_off 15 = .ok (.ireturn, 1) := by decide +kernel
theorem dL_attach_0 : decode cL_attach 0 = .ok (.aload_n 0, 1) := by decide +kernel
theorem dL_attach_1 : decode cL_attach 1 = .ok (.iload_n 1, 1) := by decide +kernel
theorem dL_attach_2 : decode cL_attach 2 = .ok (.iload_n 2, 1) := by decide +kernel
theorem dL_attach_3 : decode cL_attach 3 = .ok (.invokevirtual 52, 3) := by decide +kernel
theorem dL_attach_6 : decode cL_attach 6 = .ok (.istore_n 3, 1) := by decide +kernel
theorem dL_attach_7 : decode cL_attach 7 = .ok (.goto 15, 3) := by decide +kernel
theorem dL_attach_10 : decode cL_attach 10 = .ok (.astore 4, 2) := by decide +kernel
theorem dL_attach_12 : decode cL_attach 12 = .ok (.sipush (-7100), 3) := by decide +kernel
theorem dL_attach_15 : decode cL_attach 15 = .ok (.ireturn, 1) := by decide +kernel
theorem dL_attach_16 : decode cL_attach 16 = .ok (.astore 4, 2) := by decide +kernel
theorem dL_attach_18 : decode cL_attach 18 = .ok (.sipush (-7300), 3) := by decide +kernel
theorem dL_attach_21 : decode cL_attach 21 = .ok (.ireturn, 1) := by decide +kernel
theorem dL_attach_22 : decode cL_attach 22 = .ok (.iload_n 3, 1) := by decide +kernel
theorem dL_attach_23 : decode cL_attach 23 = .ok (.ireturn, 1) := by decide +kernel
theorem dL_emergency_0 : decode cL_emergency 0 = .ok (.aload_n 0, 1) := by decide +kernel
theorem dL_emergency_1 : decode cL_emergency 1 = .ok (.iload_n 1, 1) := by decide +kernel
theorem dL_emergency_2 : decode cL_emergency 2 = .ok (.invokevirtual 55, 3) := by decide +kernel
theorem dL_emergency_5 : decode cL_emergency 5 = .ok (.istore_n 2, 1) := by decide +kernel
theorem dL_emergency_6 : decode cL_emergency 6 = .ok (.goto 8, 3) := by decide +kernel
theorem dL_emergency_9 : decode cL_emergency 9 = .ok (.astore_n 3, 1) := by decide +kernel
theorem dL_emergency_10 : decode cL_emergency 10 = .ok (.sipush (-7100), 3) := by decide +kernel
theorem dL_emergency_13 : decode cL_emergency 13 = .ok (.ireturn, 1) := by decide +kernel
theorem dL_emergency_14 : decode cL_emergency 14 = .ok (.iload_n 2, 1) := by decide +kernel
theorem dL_emergency_15 : decode cL_emergency 15 = .ok (.ireturn, 1) := by decide +kernel
theorem dL_where_0 : decode cL_where 0 = .ok (.aload_n 0, 1) := by decide +kernel
theorem dL_where_1 : decode cL_where 1 = .ok (.iload_n 1, 1) := by decide +kernel
theorem dL_where_2 : decode cL_where 2 = .ok (.invokevirtual 58, 3) := by decide +kernel
theorem dL_where_5 : decode cL_where 5 = .ok (.istore_n 2, 1) := by decide +kernel
theorem dL_where_6 : decode cL_where 6 = .ok (.goto 8, 3) := by decide +kernel
theorem dL_where_9 : decode cL_where 9 = .ok (.astore_n 3, 1) := by decide +kernel
theorem dL_where_10 : decode cL_where 10 = .ok (.sipush (-7100), 3) := by decide +kernel
theorem dL_where_13 : decode cL_where 13 = .ok (.ireturn, 1) := by decide +kernel
theorem dL_where_14 : decode cL_where 14 = .ok (.iload_n 2, 1) := by decide +kernel
theorem dL_where_15 : decode cL_where 15 = .ok (.ireturn, 1) := by decide +kernel
theorem dL_contact_0 : decode cL_contact 0 = .ok (.aload_n 0, 1) := by decide +kernel
theorem dL_contact_1 : decode cL_contact 1 = .ok (.iload_n 1, 1) := by decide +kernel
theorem dL_contact_2 : decode cL_contact 2 = .ok (.iload_n 2, 1) := by decide +kernel
theorem dL_contact_3 : decode cL_contact 3 = .ok (.invokevirtual 61, 3) := by decide +kernel
theorem dL_contact_6 : decode cL_contact 6 = .ok (.istore_n 3, 1) := by decide +kernel
theorem dL_contact_7 : decode cL_contact 7 = .ok (.goto 9, 3) := by decide +kernel
theorem dL_contact_10 : decode cL_contact 10 = .ok (.astore 4, 2) := by decide +kernel
theorem dL_contact_12 : decode cL_contact 12 = .ok (.sipush (-7100), 3) := by decide +kernel
theorem dL_contact_15 : decode cL_contact 15 = .ok (.ireturn, 1) := by decide +kernel
theorem dL_contact_16 : decode cL_contact 16 = .ok (.iload_n 3, 1) := by decide +kernel
theorem dL_contact_17 : decode cL_contact 17 = .ok (.ireturn, 1) := by decide +kernel
theorem dL_agrees_0 : decode cL_agrees 0 = .ok (.aload_n 0, 1) := by decide +kernel
theorem dL_agrees_1 : decode cL_agrees 1 = .ok (.iload_n 1, 1) := by decide +kernel
theorem dL_agrees_2 : decode cL_agrees 2 = .ok (.invokevirtual 64, 3) := by decide +kernel
theorem dL_agrees_5 : decode cL_agrees 5 = .ok (.istore_n 2, 1) := by decide +kernel
theorem dL_agrees_6 : decode cL_agrees 6 = .ok (.goto 8, 3) := by decide +kernel
theorem dL_agrees_9 : decode cL_agrees 9 = .ok (.astore_n 3, 1) := by decide +kernel
theorem dL_agrees_10 : decode cL_agrees 10 = .ok (.sipush (-7100), 3) := by decide +kernel
theorem dL_agrees_13 : decode cL_agrees 13 = .ok (.ireturn, 1) := by decide +kernel
theorem dL_agrees_14 : decode cL_agrees 14 = .ok (.iload_n 2, 1) := by decide +kernel
theorem dL_agrees_15 : decode cL_agrees 15 = .ok (.ifCond .eq 7, 3) := by decide +kernel
theorem dL_agrees_18 : decode cL_agrees 18 = .ok (.iconst 1, 1) := by decide +kernel
theorem dL_agrees_19 : decode cL_agrees 19 = .ok (.goto 4, 3) := by decide +kernel
theorem dL_agrees_22 : decode cL_agrees 22 = .ok (.iconst 0, 1) := by decide +kernel
theorem dL_agrees_23 : decode cL_agrees 23 = .ok (.ireturn, 1) := by decide +kernel
theorem dL_subscriberIs_0 : decode cL_subscriberIs 0 = .ok (.aload_n 0, 1) := by decide +kernel
theorem dL_subscriberIs_1 : decode cL_subscriberIs 1 = .ok (.iload_n 1, 1) := by decide +kernel
theorem dL_subscriberIs_2 : decode cL_subscriberIs 2 = .ok (.iload_n 2, 1) := by decide +kernel
theorem dL_subscriberIs_3 : decode cL_subscriberIs 3 = .ok (.invokevirtual 68, 3) := by decide +kernel
theorem dL_subscriberIs_6 : decode cL_subscriberIs 6 = .ok (.istore_n 3, 1) := by decide +kernel
theorem dL_subscriberIs_7 : decode cL_subscriberIs 7 = .ok (.goto 15, 3) := by decide +kernel
theorem dL_subscriberIs_10 : decode cL_subscriberIs 10 = .ok (.astore 4, 2) := by decide +kernel
theorem dL_subscriberIs_12 : decode cL_subscriberIs 12 = .ok (.sipush (-7100), 3) := by decide +kernel
theorem dL_subscriberIs_15 : decode cL_subscriberIs 15 = .ok (.ireturn, 1) := by decide +kernel
theorem dL_subscriberIs_16 : decode cL_subscriberIs 16 = .ok (.astore 4, 2) := by decide +kernel
theorem dL_subscriberIs_18 : decode cL_subscriberIs 18 = .ok (.sipush (-7200), 3) := by decide +kernel
theorem dL_subscriberIs_21 : decode cL_subscriberIs 21 = .ok (.ireturn, 1) := by decide +kernel
theorem dL_subscriberIs_22 : decode cL_subscriberIs 22 = .ok (.iload_n 3, 1) := by decide +kernel
theorem dL_subscriberIs_23 : decode cL_subscriberIs 23 = .ok (.ireturn, 1) := by decide +kernel
theorem dL_cap_0 : decode cL_cap 0 = .ok (.aload_n 0, 1) := by decide +kernel
theorem dL_cap_1 : decode cL_cap 1 = .ok (.iload_n 1, 1) := by decide +kernel
theorem dL_cap_2 : decode cL_cap 2 = .ok (.iload_n 2, 1) := by decide +kernel
theorem dL_cap_3 : decode cL_cap 3 = .ok (.iload_n 3, 1) := by decide +kernel
theorem dL_cap_4 : decode cL_cap 4 = .ok (.invokevirtual 71, 3) := by decide +kernel
theorem dL_cap_7 : decode cL_cap 7 = .ok (.goto 15, 3) := by decide +kernel
theorem dL_cap_10 : decode cL_cap 10 = .ok (.astore 4, 2) := by decide +kernel
theorem dL_cap_12 : decode cL_cap 12 = .ok (.sipush (-7100), 3) := by decide +kernel
theorem dL_cap_15 : decode cL_cap 15 = .ok (.ireturn, 1) := by decide +kernel
theorem dL_cap_16 : decode cL_cap 16 = .ok (.astore 4, 2) := by decide +kernel
theorem dL_cap_18 : decode cL_cap 18 = .ok (.sipush (-7200), 3) := by decide +kernel
theorem dL_cap_21 : decode cL_cap 21 = .ok (.ireturn, 1) := by decide +kernel
theorem dL_cap_22 : decode cL_cap 22 = .ok (.iconst 0, 1) := by decide +kernel
theorem dL_cap_23 : decode cL_cap 23 = .ok (.ireturn, 1) := by decide +kernel
theorem dL_call_0 : decode cL_call 0 = .ok (.aload_n 0, 1) := by decide +kernel
theorem dL_call_1 : decode cL_call 1 = .ok (.iload_n 1, 1) := by decide +kernel
theorem dL_call_2 : decode cL_call 2 = .ok (.iload_n 2, 1) := by decide +kernel
theorem dL_call_3 : decode cL_call 3 = .ok (.iload_n 3, 1) := by decide +kernel
theorem dL_call_4 : decode cL_call 4 = .ok (.invokevirtual 75, 3) := by decide +kernel
theorem dL_call_7 : decode cL_call 7 = .ok (.istore 4, 2) := by decide +kernel
theorem dL_call_9 : decode cL_call 9 = .ok (.goto 21, 3) := by decide +kernel
theorem dL_call_12 : decode cL_call 12 = .ok (.astore 5, 2) := by decide +kernel
theorem dL_call_14 : decode cL_call 14 = .ok (.sipush (-7100), 3) := by decide +kernel
theorem dL_call_17 : decode cL_call 17 = .ok (.ireturn, 1) := by decide +kernel
theorem dL_call_18 : decode cL_call 18 = .ok (.astore 5, 2) := by decide +kernel
theorem dL_call_20 : decode cL_call 20 = .ok (.sipush (-7200), 3) := by decide +kernel
theorem dL_call_23 : decode cL_call 23 = .ok (.ireturn, 1) := by decide +kernel
theorem dL_call_24 : decode cL_call 24 = .ok (.astore 5, 2) := by decide +kernel
theorem dL_call_26 : decode cL_call 26 = .ok (.sipush (-7300), 3) := by decide +kernel
theorem dL_call_29 : decode cL_call 29 = .ok (.ireturn, 1) := by decide +kernel
theorem dL_call_30 : decode cL_call 30 = .ok (.iload 4, 2) := by decide +kernel
theorem dL_call_32 : decode cL_call 32 = .ok (.ireturn, 1) := by decide +kernel
theorem dL_paidAnew_0 : decode cL_paidAnew 0 = .ok (.aload_n 0, 1) := by decide +kernel
theorem dL_paidAnew_1 : decode cL_paidAnew 1 = .ok (.iload_n 1, 1) := by decide +kernel
theorem dL_paidAnew_2 : decode cL_paidAnew 2 = .ok (.invokevirtual 78, 3) := by decide +kernel
theorem dL_paidAnew_5 : decode cL_paidAnew 5 = .ok (.istore_n 2, 1) := by decide +kernel
theorem dL_paidAnew_6 : decode cL_paidAnew 6 = .ok (.goto 8, 3) := by decide +kernel
theorem dL_paidAnew_9 : decode cL_paidAnew 9 = .ok (.astore_n 3, 1) := by decide +kernel
theorem dL_paidAnew_10 : decode cL_paidAnew 10 = .ok (.sipush (-7100), 3) := by decide +kernel
theorem dL_paidAnew_13 : decode cL_paidAnew 13 = .ok (.ireturn, 1) := by decide +kernel
theorem dL_paidAnew_14 : decode cL_paidAnew 14 = .ok (.iload_n 2, 1) := by decide +kernel
theorem dL_paidAnew_15 : decode cL_paidAnew 15 = .ok (.ireturn, 1) := by decide +kernel
theorem dL_file_0 : decode cL_file 0 = .ok (.aload_n 0, 1) := by decide +kernel
theorem dL_file_1 : decode cL_file 1 = .ok (.iload_n 1, 1) := by decide +kernel
theorem dL_file_2 : decode cL_file 2 = .ok (.iload_n 2, 1) := by decide +kernel
theorem dL_file_3 : decode cL_file 3 = .ok (.invokevirtual 81, 3) := by decide +kernel
theorem dL_file_6 : decode cL_file 6 = .ok (.istore_n 3, 1) := by decide +kernel
theorem dL_file_7 : decode cL_file 7 = .ok (.goto 15, 3) := by decide +kernel
theorem dL_file_10 : decode cL_file 10 = .ok (.astore 4, 2) := by decide +kernel
theorem dL_file_12 : decode cL_file 12 = .ok (.sipush (-7100), 3) := by decide +kernel
theorem dL_file_15 : decode cL_file 15 = .ok (.ireturn, 1) := by decide +kernel
theorem dL_file_16 : decode cL_file 16 = .ok (.astore 4, 2) := by decide +kernel
theorem dL_file_18 : decode cL_file 18 = .ok (.sipush (-7300), 3) := by decide +kernel
theorem dL_file_21 : decode cL_file 21 = .ok (.ireturn, 1) := by decide +kernel
theorem dL_file_22 : decode cL_file 22 = .ok (.iload_n 3, 1) := by decide +kernel
theorem dL_file_23 : decode cL_file 23 = .ok (.ireturn, 1) := by decide +kernel
theorem dL_deliver_0 : decode cL_deliver 0 = .ok (.aload_n 0, 1) := by decide +kernel
theorem dL_deliver_1 : decode cL_deliver 1 = .ok (.iload_n 1, 1) := by decide +kernel
theorem dL_deliver_2 : decode cL_deliver 2 = .ok (.iload_n 2, 1) := by decide +kernel
theorem dL_deliver_3 : decode cL_deliver 3 = .ok (.iload_n 3, 1) := by decide +kernel
theorem dL_deliver_4 : decode cL_deliver 4 = .ok (.invokevirtual 84, 3) := by decide +kernel
theorem dL_deliver_7 : decode cL_deliver 7 = .ok (.istore 4, 2) := by decide +kernel
theorem dL_deliver_9 : decode cL_deliver 9 = .ok (.goto 9, 3) := by decide +kernel
theorem dL_deliver_12 : decode cL_deliver 12 = .ok (.astore 5, 2) := by decide +kernel
theorem dL_deliver_14 : decode cL_deliver 14 = .ok (.sipush (-7100), 3) := by decide +kernel
theorem dL_deliver_17 : decode cL_deliver 17 = .ok (.ireturn, 1) := by decide +kernel
theorem dL_deliver_18 : decode cL_deliver 18 = .ok (.iload 4, 2) := by decide +kernel
theorem dL_deliver_20 : decode cL_deliver 20 = .ok (.ireturn, 1) := by decide +kernel
theorem dL_owes_0 : decode cL_owes 0 = .ok (.aload_n 0, 1) := by decide +kernel
theorem dL_owes_1 : decode cL_owes 1 = .ok (.iload_n 1, 1) := by decide +kernel
theorem dL_owes_2 : decode cL_owes 2 = .ok (.iload_n 2, 1) := by decide +kernel
theorem dL_owes_3 : decode cL_owes 3 = .ok (.invokevirtual 87, 3) := by decide +kernel
theorem dL_owes_6 : decode cL_owes 6 = .ok (.istore_n 3, 1) := by decide +kernel
theorem dL_owes_7 : decode cL_owes 7 = .ok (.goto 9, 3) := by decide +kernel
theorem dL_owes_10 : decode cL_owes 10 = .ok (.astore 4, 2) := by decide +kernel
theorem dL_owes_12 : decode cL_owes 12 = .ok (.sipush (-7100), 3) := by decide +kernel
theorem dL_owes_15 : decode cL_owes 15 = .ok (.ireturn, 1) := by decide +kernel
theorem dL_owes_16 : decode cL_owes 16 = .ok (.iload_n 3, 1) := by decide +kernel
theorem dL_owes_17 : decode cL_owes 17 = .ok (.ireturn, 1) := by decide +kernel
theorem dL_owesAnew_0 : decode cL_owesAnew 0 = .ok (.aload_n 0, 1) := by decide +kernel
theorem dL_owesAnew_1 : decode cL_owesAnew 1 = .ok (.iload_n 1, 1) := by decide +kernel
theorem dL_owesAnew_2 : decode cL_owesAnew 2 = .ok (.iload_n 2, 1) := by decide +kernel
theorem dL_owesAnew_3 : decode cL_owesAnew 3 = .ok (.invokevirtual 90, 3) := by decide +kernel
theorem dL_owesAnew_6 : decode cL_owesAnew 6 = .ok (.istore_n 3, 1) := by decide +kernel
theorem dL_owesAnew_7 : decode cL_owesAnew 7 = .ok (.goto 9, 3) := by decide +kernel
theorem dL_owesAnew_10 : decode cL_owesAnew 10 = .ok (.astore 4, 2) := by decide +kernel
theorem dL_owesAnew_12 : decode cL_owesAnew 12 = .ok (.sipush (-7100), 3) := by decide +kernel
theorem dL_owesAnew_15 : decode cL_owesAnew 15 = .ok (.ireturn, 1) := by decide +kernel
theorem dL_owesAnew_16 : decode cL_owesAnew 16 = .ok (.iload_n 3, 1) := by decide +kernel
theorem dL_owesAnew_17 : decode cL_owesAnew 17 = .ok (.ireturn, 1) := by decide +kernel
theorem dL_recorded_0 : decode cL_recorded 0 = .ok (.aload_n 0, 1) := by decide +kernel
theorem dL_recorded_1 : decode cL_recorded 1 = .ok (.iload_n 1, 1) := by decide +kernel
theorem dL_recorded_2 : decode cL_recorded 2 = .ok (.iload_n 2, 1) := by decide +kernel
theorem dL_recorded_3 : decode cL_recorded 3 = .ok (.iload_n 3, 1) := by decide +kernel
theorem dL_recorded_4 : decode cL_recorded 4 = .ok (.invokevirtual 93, 3) := by decide +kernel
theorem dL_recorded_7 : decode cL_recorded 7 = .ok (.istore 4, 2) := by decide +kernel
theorem dL_recorded_9 : decode cL_recorded 9 = .ok (.goto 15, 3) := by decide +kernel
theorem dL_recorded_12 : decode cL_recorded 12 = .ok (.astore 5, 2) := by decide +kernel
theorem dL_recorded_14 : decode cL_recorded 14 = .ok (.sipush (-7100), 3) := by decide +kernel
theorem dL_recorded_17 : decode cL_recorded 17 = .ok (.ireturn, 1) := by decide +kernel
theorem dL_recorded_18 : decode cL_recorded 18 = .ok (.astore 5, 2) := by decide +kernel
theorem dL_recorded_20 : decode cL_recorded 20 = .ok (.sipush (-7200), 3) := by decide +kernel
theorem dL_recorded_23 : decode cL_recorded 23 = .ok (.ireturn, 1) := by decide +kernel
theorem dL_recorded_24 : decode cL_recorded 24 = .ok (.iload 4, 2) := by decide +kernel
theorem dL_recorded_26 : decode cL_recorded 26 = .ok (.ireturn, 1) := by decide +kernel
theorem dL_pass_0 : decode cL_pass 0 = .ok (.aload_n 0, 1) := by decide +kernel
theorem dL_pass_1 : decode cL_pass 1 = .ok (.iload_n 1, 1) := by decide +kernel
theorem dL_pass_2 : decode cL_pass 2 = .ok (.invokevirtual 96, 3) := by decide +kernel
theorem dL_pass_5 : decode cL_pass 5 = .ok (.istore_n 2, 1) := by decide +kernel
theorem dL_pass_6 : decode cL_pass 6 = .ok (.goto 13, 3) := by decide +kernel
theorem dL_pass_9 : decode cL_pass 9 = .ok (.astore_n 3, 1) := by decide +kernel
theorem dL_pass_10 : decode cL_pass 10 = .ok (.sipush (-7200), 3) := by decide +kernel
theorem dL_pass_13 : decode cL_pass 13 = .ok (.ireturn, 1) := by decide +kernel
theorem dL_pass_14 : decode cL_pass 14 = .ok (.astore_n 3, 1) := by decide +kernel
theorem dL_pass_15 : decode cL_pass 15 = .ok (.sipush (-7300), 3) := by decide +kernel
theorem dL_pass_18 : decode cL_pass 18 = .ok (.ireturn, 1) := by decide +kernel
theorem dL_pass_19 : decode cL_pass 19 = .ok (.iload_n 2, 1) := by decide +kernel
theorem dL_pass_20 : decode cL_pass 20 = .ok (.ireturn, 1) := by decide +kernel
theorem dL_holds_0 : decode cL_holds 0 = .ok (.aload_n 3, 1) := by decide +kernel
theorem dL_holds_1 : decode cL_holds 1 = .ok (.iconst 2, 1) := by decide +kernel
theorem dL_holds_2 : decode cL_holds 2 = .ok (.iaload, 1) := by decide +kernel
theorem dL_holds_3 : decode cL_holds 3 = .ok (.iconst 1, 1) := by decide +kernel
theorem dL_holds_4 : decode cL_holds 4 = .ok (.isub, 1) := by decide +kernel
theorem dL_holds_5 : decode cL_holds 5 = .ok (.istore 4, 2) := by decide +kernel
theorem dL_holds_7 : decode cL_holds 7 = .ok (.iload 4, 2) := by decide +kernel
theorem dL_holds_9 : decode cL_holds 9 = .ok (.ifCond .lt 58, 3) := by decide +kernel
theorem dL_holds_12 : decode cL_holds 12 = .ok (.aload_n 2, 1) := by decide +kernel
theorem dL_holds_13 : decode cL_holds 13 = .ok (.bipush 6, 2) := by decide +kernel
theorem dL_holds_15 : decode cL_holds 15 = .ok (.iload 4, 2) := by decide +kernel
theorem dL_holds_17 : decode cL_holds 17 = .ok (.imul, 1) := by decide +kernel
theorem dL_holds_18 : decode cL_holds 18 = .ok (.iaload, 1) := by decide +kernel
theorem dL_holds_19 : decode cL_holds 19 = .ok (.bipush 8, 2) := by decide +kernel
theorem dL_holds_21 : decode cL_holds 21 = .ok (.iload_n 0, 1) := by decide +kernel
theorem dL_holds_22 : decode cL_holds 22 = .ok (.imul, 1) := by decide +kernel
theorem dL_holds_23 : decode cL_holds 23 = .ok (.iload_n 1, 1) := by decide +kernel
theorem dL_holds_24 : decode cL_holds 24 = .ok (.iadd, 1) := by decide +kernel
theorem dL_holds_25 : decode cL_holds 25 = .ok (.if_icmp .ne 36, 3) := by decide +kernel
theorem dL_holds_28 : decode cL_holds 28 = .ok (.aload_n 2, 1) := by decide +kernel
theorem dL_holds_29 : decode cL_holds 29 = .ok (.bipush 6, 2) := by decide +kernel
theorem dL_holds_31 : decode cL_holds 31 = .ok (.iload 4, 2) := by decide +kernel
theorem dL_holds_33 : decode cL_holds 33 = .ok (.imul, 1) := by decide +kernel
theorem dL_holds_34 : decode cL_holds 34 = .ok (.iconst 1, 1) := by decide +kernel
theorem dL_holds_35 : decode cL_holds 35 = .ok (.iadd, 1) := by decide +kernel
theorem dL_holds_36 : decode cL_holds 36 = .ok (.iaload, 1) := by decide +kernel
theorem dL_holds_37 : decode cL_holds 37 = .ok (.aload_n 3, 1) := by decide +kernel
theorem dL_holds_38 : decode cL_holds 38 = .ok (.iconst 0, 1) := by decide +kernel
theorem dL_holds_39 : decode cL_holds 39 = .ok (.iaload, 1) := by decide +kernel
theorem dL_holds_40 : decode cL_holds 40 = .ok (.if_icmp .gt 21, 3) := by decide +kernel
theorem dL_holds_43 : decode cL_holds 43 = .ok (.aload_n 3, 1) := by decide +kernel
theorem dL_holds_44 : decode cL_holds 44 = .ok (.iconst 0, 1) := by decide +kernel
theorem dL_holds_45 : decode cL_holds 45 = .ok (.iaload, 1) := by decide +kernel
theorem dL_holds_46 : decode cL_holds 46 = .ok (.aload_n 2, 1) := by decide +kernel
theorem dL_holds_47 : decode cL_holds 47 = .ok (.bipush 6, 2) := by decide +kernel
theorem dL_holds_49 : decode cL_holds 49 = .ok (.iload 4, 2) := by decide +kernel
theorem dL_holds_51 : decode cL_holds 51 = .ok (.imul, 1) := by decide +kernel
theorem dL_holds_52 : decode cL_holds 52 = .ok (.iconst 2, 1) := by decide +kernel
theorem dL_holds_53 : decode cL_holds 53 = .ok (.iadd, 1) := by decide +kernel
theorem dL_holds_54 : decode cL_holds 54 = .ok (.iaload, 1) := by decide +kernel
theorem dL_holds_55 : decode cL_holds 55 = .ok (.if_icmp .ge 6, 3) := by decide +kernel
theorem dL_holds_58 : decode cL_holds 58 = .ok (.iload 4, 2) := by decide +kernel
theorem dL_holds_60 : decode cL_holds 60 = .ok (.ireturn, 1) := by decide +kernel
theorem dL_holds_61 : decode cL_holds 61 = .ok (.iinc 4 (-1), 3) := by decide +kernel
theorem dL_holds_64 : decode cL_holds 64 = .ok (.goto (-57), 3) := by decide +kernel
theorem dL_holds_67 : decode cL_holds 67 = .ok (.iconst (-1), 1) := by decide +kernel
theorem dL_holds_68 : decode cL_holds 68 = .ok (.ireturn, 1) := by decide +kernel
theorem dL_reason_0 : decode cL_reason 0 = .ok (.aload 4, 2) := by decide +kernel
theorem dL_reason_2 : decode cL_reason 2 = .ok (.bipush 18, 2) := by decide +kernel
theorem dL_reason_4 : decode cL_reason 4 = .ok (.aload_n 2, 1) := by decide +kernel
theorem dL_reason_5 : decode cL_reason 5 = .ok (.bipush 8, 2) := by decide +kernel
theorem dL_reason_7 : decode cL_reason 7 = .ok (.iload_n 0, 1) := by decide +kernel
theorem dL_reason_8 : decode cL_reason 8 = .ok (.imul, 1) := by decide +kernel
theorem dL_reason_9 : decode cL_reason 9 = .ok (.iconst 1, 1) := by decide +kernel
theorem dL_reason_10 : decode cL_reason 10 = .ok (.iadd, 1) := by decide +kernel
theorem dL_reason_11 : decode cL_reason 11 = .ok (.iaload, 1) := by decide +kernel
theorem dL_reason_12 : decode cL_reason 12 = .ok (.iadd, 1) := by decide +kernel
theorem dL_reason_13 : decode cL_reason 13 = .ok (.iaload, 1) := by decide +kernel
theorem dL_reason_14 : decode cL_reason 14 = .ok (.iload_n 1, 1) := by decide +kernel
theorem dL_reason_15 : decode cL_reason 15 = .ok (.ishr, 1) := by decide +kernel
theorem dL_reason_16 : decode cL_reason 16 = .ok (.iconst 1, 1) := by decide +kernel
theorem dL_reason_17 : decode cL_reason 17 = .ok (.iand, 1) := by decide +kernel
theorem dL_reason_18 : decode cL_reason 18 = .ok (.ifCond .ne 5, 3) := by decide +kernel
theorem dL_reason_21 : decode cL_reason 21 = .ok (.iconst 1, 1) := by decide +kernel
theorem dL_reason_22 : decode cL_reason 22 = .ok (.ireturn, 1) := by decide +kernel
theorem dL_reason_23 : decode cL_reason 23 = .ok (.aload 4, 2) := by decide +kernel
theorem dL_reason_25 : decode cL_reason 25 = .ok (.iconst 5, 1) := by decide +kernel
theorem dL_reason_26 : decode cL_reason 26 = .ok (.iaload, 1) := by decide +kernel
theorem dL_reason_27 : decode cL_reason 27 = .ok (.iload_n 1, 1) := by decide +kernel
theorem dL_reason_28 : decode cL_reason 28 = .ok (.ishr, 1) := by decide +kernel
theorem dL_reason_29 : decode cL_reason 29 = .ok (.iconst 1, 1) := by decide +kernel
theorem dL_reason_30 : decode cL_reason 30 = .ok (.iand, 1) := by decide +kernel
theorem dL_reason_31 : decode cL_reason 31 = .ok (.iconst 1, 1) := by decide +kernel
theorem dL_reason_32 : decode cL_reason 32 = .ok (.if_icmp .ne 5, 3) := by decide +kernel
theorem dL_reason_35 : decode cL_reason 35 = .ok (.iconst 2, 1) := by decide +kernel
theorem dL_reason_36 : decode cL_reason 36 = .ok (.ireturn, 1) := by decide +kernel
theorem dL_reason_37 : decode cL_reason 37 = .ok (.aload_n 2, 1) := by decide +kernel
theorem dL_reason_38 : decode cL_reason 38 = .ok (.bipush 8, 2) := by decide +kernel
theorem dL_reason_40 : decode cL_reason 40 = .ok (.iload_n 0, 1) := by decide +kernel
theorem dL_reason_41 : decode cL_reason 41 = .ok (.imul, 1) := by decide +kernel
theorem dL_reason_42 : decode cL_reason 42 = .ok (.iconst 2, 1) := by decide +kernel
theorem dL_reason_43 : decode cL_reason 43 = .ok (.iadd, 1) := by decide +kernel
theorem dL_reason_44 : decode cL_reason 44 = .ok (.iaload, 1) := by decide +kernel
theorem dL_reason_45 : decode cL_reason 45 = .ok (.iload_n 1, 1) := by decide +kernel
theorem dL_reason_46 : decode cL_reason 46 = .ok (.ishr, 1) := by decide +kernel
theorem dL_reason_47 : decode cL_reason 47 = .ok (.iconst 1, 1) := by decide +kernel
theorem dL_reason_48 : decode cL_reason 48 = .ok (.iand, 1) := by decide +kernel
theorem dL_reason_49 : decode cL_reason 49 = .ok (.iconst 1, 1) := by decide +kernel
theorem dL_reason_50 : decode cL_reason 50 = .ok (.if_icmp .ne 5, 3) := by decide +kernel
theorem dL_reason_53 : decode cL_reason 53 = .ok (.iconst 3, 1) := by decide +kernel
theorem dL_reason_54 : decode cL_reason 54 = .ok (.ireturn, 1) := by decide +kernel
theorem dL_reason_55 : decode cL_reason 55 = .ok (.aload_n 2, 1) := by decide +kernel
theorem dL_reason_56 : decode cL_reason 56 = .ok (.bipush 8, 2) := by decide +kernel
theorem dL_reason_58 : decode cL_reason 58 = .ok (.iload_n 0, 1) := by decide +kernel
theorem dL_reason_59 : decode cL_reason 59 = .ok (.imul, 1) := by decide +kernel
theorem dL_reason_60 : decode cL_reason 60 = .ok (.iaload, 1) := by decide +kernel
theorem dL_reason_61 : decode cL_reason 61 = .ok (.iload_n 1, 1) := by decide +kernel
theorem dL_reason_62 : decode cL_reason 62 = .ok (.if_icmp .eq 20, 3) := by decide +kernel
theorem dL_reason_65 : decode cL_reason 65 = .ok (.aload_n 2, 1) := by decide +kernel
theorem dL_reason_66 : decode cL_reason 66 = .ok (.bipush 8, 2) := by decide +kernel
theorem dL_reason_68 : decode cL_reason 68 = .ok (.iload_n 0, 1) := by decide +kernel
theorem dL_reason_69 : decode cL_reason 69 = .ok (.imul, 1) := by decide +kernel
theorem dL_reason_70 : decode cL_reason 70 = .ok (.iaload, 1) := by decide +kernel
theorem dL_reason_71 : decode cL_reason 71 = .ok (.iload_n 1, 1) := by decide +kernel
theorem dL_reason_72 : decode cL_reason 72 = .ok (.aload_n 3, 1) := by decide +kernel
theorem dL_reason_73 : decode cL_reason 73 = .ok (.aload 4, 2) := by decide +kernel
theorem dL_reason_75 : decode cL_reason 75 = .ok (.invokestatic 101, 3) := by decide +kernel
theorem dL_reason_78 : decode cL_reason 78 = .ok (.iconst (-1), 1) := by decide +kernel
theorem dL_reason_79 : decode cL_reason 79 = .ok (.if_icmp .eq 7, 3) := by decide +kernel
theorem dL_reason_82 : decode cL_reason 82 = .ok (.iconst 0, 1) := by decide +kernel
theorem dL_reason_83 : decode cL_reason 83 = .ok (.goto 4, 3) := by decide +kernel
theorem dL_reason_86 : decode cL_reason 86 = .ok (.iconst 4, 1) := by decide +kernel
theorem dL_reason_87 : decode cL_reason 87 = .ok (.ireturn, 1) := by decide +kernel
theorem dL_meets_0 : decode cL_meets 0 = .ok (.aload_n 1, 1) := by decide +kernel
theorem dL_meets_1 : decode cL_meets 1 = .ok (.bipush 8, 2) := by decide +kernel
theorem dL_meets_3 : decode cL_meets 3 = .ok (.iload_n 0, 1) := by decide +kernel
theorem dL_meets_4 : decode cL_meets 4 = .ok (.imul, 1) := by decide +kernel
theorem dL_meets_5 : decode cL_meets 5 = .ok (.iconst 3, 1) := by decide +kernel
theorem dL_meets_6 : decode cL_meets 6 = .ok (.iadd, 1) := by decide +kernel
theorem dL_meets_7 : decode cL_meets 7 = .ok (.iaload, 1) := by decide +kernel
theorem dL_meets_8 : decode cL_meets 8 = .ok (.istore 4, 2) := by decide +kernel
theorem dL_meets_10 : decode cL_meets 10 = .ok (.aload_n 2, 1) := by decide +kernel
theorem dL_meets_11 : decode cL_meets 11 = .ok (.bipush 6, 2) := by decide +kernel
theorem dL_meets_13 : decode cL_meets 13 = .ok (.iload 4, 2) := by decide +kernel
theorem dL_meets_15 : decode cL_meets 15 = .ok (.imul, 1) := by decide +kernel
theorem dL_meets_16 : decode cL_meets 16 = .ok (.iload_n 0, 1) := by decide +kernel
theorem dL_meets_17 : decode cL_meets 17 = .ok (.iadd, 1) := by decide +kernel
theorem dL_meets_18 : decode cL_meets 18 = .ok (.aload_n 3, 1) := by decide +kernel
theorem dL_meets_19 : decode cL_meets 19 = .ok (.iconst 0, 1) := by decide +kernel
theorem dL_meets_20 : decode cL_meets 20 = .ok (.iaload, 1) := by decide +kernel
theorem dL_meets_21 : decode cL_meets 21 = .ok (.iastore, 1) := by decide +kernel
theorem dL_meets_22 : decode cL_meets 22 = .ok (.aload_n 3, 1) := by decide +kernel
theorem dL_meets_23 : decode cL_meets 23 = .ok (.bipush 12, 2) := by decide +kernel
theorem dL_meets_25 : decode cL_meets 25 = .ok (.iload 4, 2) := by decide +kernel
theorem dL_meets_27 : decode cL_meets 27 = .ok (.iadd, 1) := by decide +kernel
theorem dL_meets_28 : decode cL_meets 28 = .ok (.iaload, 1) := by decide +kernel
theorem dL_meets_29 : decode cL_meets 29 = .ok (.ifCond .le 15, 3) := by decide +kernel
theorem dL_meets_32 : decode cL_meets 32 = .ok (.aload_n 3, 1) := by decide +kernel
theorem dL_meets_33 : decode cL_meets 33 = .ok (.bipush 12, 2) := by decide +kernel
theorem dL_meets_35 : decode cL_meets 35 = .ok (.iload 4, 2) := by decide +kernel
theorem dL_meets_37 : decode cL_meets 37 = .ok (.iadd, 1) := by decide +kernel
theorem dL_meets_38 : decode cL_meets 38 = .ok (.dup2, 1) := by decide +kernel
theorem dL_meets_39 : decode cL_meets 39 = .ok (.iaload, 1) := by decide +kernel
theorem dL_meets_40 : decode cL_meets 40 = .ok (.iconst 1, 1) := by decide +kernel
theorem dL_meets_41 : decode cL_meets 41 = .ok (.isub, 1) := by decide +kernel
theorem dL_meets_42 : decode cL_meets 42 = .ok (.iastore, 1) := by decide +kernel
theorem dL_meets_43 : decode cL_meets 43 = .ok (.return_, 1) := by decide +kernel
theorem dL_meets_44 : decode cL_meets 44 = .ok (.aload_n 1, 1) := by decide +kernel
theorem dL_meets_45 : decode cL_meets 45 = .ok (.bipush 8, 2) := by decide +kernel
theorem dL_meets_47 : decode cL_meets 47 = .ok (.iload_n 0, 1) := by decide +kernel
theorem dL_meets_48 : decode cL_meets 48 = .ok (.imul, 1) := by decide +kernel
theorem dL_meets_49 : decode cL_meets 49 = .ok (.iconst 5, 1) := by decide +kernel
theorem dL_meets_50 : decode cL_meets 50 = .ok (.iadd, 1) := by decide +kernel
theorem dL_meets_51 : decode cL_meets 51 = .ok (.iaload, 1) := by decide +kernel
theorem dL_meets_52 : decode cL_meets 52 = .ok (.istore 5, 2) := by decide +kernel
theorem dL_meets_54 : decode cL_meets 54 = .ok (.aload_n 1, 1) := by decide +kernel
theorem dL_meets_55 : decode cL_meets 55 = .ok (.bipush 8, 2) := by decide +kernel
theorem dL_meets_57 : decode cL_meets 57 = .ok (.iload_n 0, 1) := by decide +kernel
theorem dL_meets_58 : decode cL_meets 58 = .ok (.imul, 1) := by decide +kernel
theorem dL_meets_59 : decode cL_meets 59 = .ok (.iconst 5, 1) := by decide +kernel
theorem dL_meets_60 : decode cL_meets 60 = .ok (.iadd, 1) := by decide +kernel
theorem dL_meets_61 : decode cL_meets 61 = .ok (.iload 4, 2) := by decide +kernel
theorem dL_meets_63 : decode cL_meets 63 = .ok (.iastore, 1) := by decide +kernel
theorem dL_meets_64 : decode cL_meets 64 = .ok (.iload 5, 2) := by decide +kernel
theorem dL_meets_66 : decode cL_meets 66 = .ok (.iconst (-1), 1) := by decide +kernel
theorem dL_meets_67 : decode cL_meets 67 = .ok (.if_icmp .eq 20, 3) := by decide +kernel
theorem dL_meets_70 : decode cL_meets 70 = .ok (.iload 5, 2) := by decide +kernel
theorem dL_meets_72 : decode cL_meets 72 = .ok (.iload 4, 2) := by decide +kernel
theorem dL_meets_74 : decode cL_meets 74 = .ok (.if_icmp .eq 13, 3) := by decide +kernel
theorem dL_meets_77 : decode cL_meets 77 = .ok (.aload_n 2, 1) := by decide +kernel
theorem dL_meets_78 : decode cL_meets 78 = .ok (.bipush 6, 2) := by decide +kernel
theorem dL_meets_80 : decode cL_meets 80 = .ok (.iload 5, 2) := by decide +kernel
theorem dL_meets_82 : decode cL_meets 82 = .ok (.imul, 1) := by decide +kernel
theorem dL_meets_83 : decode cL_meets 83 = .ok (.iload_n 0, 1) := by decide +kernel
theorem dL_meets_84 : decode cL_meets 84 = .ok (.iadd, 1) := by decide +kernel
theorem dL_meets_85 : decode cL_meets 85 = .ok (.iconst (-1), 1) := by decide +kernel
theorem dL_meets_86 : decode cL_meets 86 = .ok (.iastore, 1) := by decide +kernel
theorem dL_meets_87 : decode cL_meets 87 = .ok (.return_, 1) := by decide +kernel
theorem dL_paid_0 : decode cL_paid 0 = .ok (.iconst 0, 1) := by decide +kernel
theorem dL_paid_1 : decode cL_paid 1 = .ok (.istore 5, 2) := by decide +kernel
theorem dL_paid_3 : decode cL_paid 3 = .ok (.iconst 0, 1) := by decide +kernel
theorem dL_paid_4 : decode cL_paid 4 = .ok (.istore 6, 2) := by decide +kernel
theorem dL_paid_6 : decode cL_paid 6 = .ok (.iload 6, 2) := by decide +kernel
theorem dL_paid_8 : decode cL_paid 8 = .ok (.aload 4, 2) := by decide +kernel
theorem dL_paid_10 : decode cL_paid 10 = .ok (.iconst 4, 1) := by decide +kernel
theorem dL_paid_11 : decode cL_paid 11 = .ok (.iaload, 1) := by decide +kernel
theorem dL_paid_12 : decode cL_paid 12 = .ok (.if_icmp .ge 78, 3) := by decide +kernel
theorem dL_paid_15 : decode cL_paid 15 = .ok (.iload_n 1, 1) := by decide +kernel
theorem dL_paid_16 : decode cL_paid 16 = .ok (.ifCond .eq 30, 3) := by decide +kernel
theorem dL_paid_19 : decode cL_paid 19 = .ok (.aload_n 2, 1) := by decide +kernel
theorem dL_paid_20 : decode cL_paid 20 = .ok (.iload 6, 2) := by decide +kernel
theorem dL_paid_22 : decode cL_paid 22 = .ok (.iaload, 1) := by decide +kernel
theorem dL_paid_23 : decode cL_paid 23 = .ok (.bipush 8, 2) := by decide +kernel
theorem dL_paid_25 : decode cL_paid 25 = .ok (.iand, 1) := by decide +kernel
theorem dL_paid_26 : decode cL_paid 26 = .ok (.ifCond .le 24, 3) := by decide +kernel
theorem dL_paid_29 : decode cL_paid 29 = .ok (.aload_n 3, 1) := by decide +kernel
theorem dL_paid_30 : decode cL_paid 30 = .ok (.iload 6, 2) := by decide +kernel
theorem dL_paid_32 : decode cL_paid 32 = .ok (.iaload, 1) := by decide +kernel
theorem dL_paid_33 : decode cL_paid 33 = .ok (.ldc 105, 2) := by decide +kernel
theorem dL_paid_35 : decode cL_paid 35 = .ok (.idiv, 1) := by decide +kernel
theorem dL_paid_36 : decode cL_paid 36 = .ok (.aload 4, 2) := by decide +kernel
theorem dL_paid_38 : decode cL_paid 38 = .ok (.iconst 0, 1) := by decide +kernel
theorem dL_paid_39 : decode cL_paid 39 = .ok (.iaload, 1) := by decide +kernel
theorem dL_paid_40 : decode cL_paid 40 = .ok (.ldc 105, 2) := by decide +kernel
theorem dL_paid_42 : decode cL_paid 42 = .ok (.idiv, 1) := by decide +kernel
theorem dL_paid_43 : decode cL_paid 43 = .ok (.if_icmp .ne 7, 3) := by decide +kernel
theorem dL_paid_46 : decode cL_paid 46 = .ok (.iconst 1, 1) := by decide +kernel
theorem dL_paid_47 : decode cL_paid 47 = .ok (.goto 4, 3) := by decide +kernel
theorem dL_paid_50 : decode cL_paid 50 = .ok (.iconst 0, 1) := by decide +kernel
theorem dL_paid_51 : decode cL_paid 51 = .ok (.istore 7, 2) := by decide +kernel
theorem dL_paid_53 : decode cL_paid 53 = .ok (.iload 5, 2) := by decide +kernel
theorem dL_paid_55 : decode cL_paid 55 = .ok (.aload_n 2, 1) := by decide +kernel
theorem dL_paid_56 : decode cL_paid 56 = .ok (.iload 6, 2) := by decide +kernel
theorem dL_paid_58 : decode cL_paid 58 = .ok (.iaload, 1) := by decide +kernel
theorem dL_paid_59 : decode cL_paid 59 = .ok (.bipush 7, 2) := by decide +kernel
theorem dL_paid_61 : decode cL_paid 61 = .ok (.iand, 1) := by decide +kernel
theorem dL_paid_62 : decode cL_paid 62 = .ok (.iload_n 0, 1) := by decide +kernel
theorem dL_paid_63 : decode cL_paid 63 = .ok (.if_icmp .ne 17, 3) := by decide +kernel
theorem dL_paid_66 : decode cL_paid 66 = .ok (.iload 7, 2) := by decide +kernel
theorem dL_paid_68 : decode cL_paid 68 = .ok (.ifCond .eq 12, 3) := by decide +kernel
theorem dL_paid_71 : decode cL_paid 71 = .ok (.aload_n 2, 1) := by decide +kernel
theorem dL_paid_72 : decode cL_paid 72 = .ok (.iload 6, 2) := by decide +kernel
theorem dL_paid_74 : decode cL_paid 74 = .ok (.iaload, 1) := by decide +kernel
theorem dL_paid_75 : decode cL_paid 75 = .ok (.iconst 4, 1) := by decide +kernel
theorem dL_paid_76 : decode cL_paid 76 = .ok (.ishr, 1) := by decide +kernel
theorem dL_paid_77 : decode cL_paid 77 = .ok (.goto 4, 3) := by decide +kernel
theorem dL_paid_80 : decode cL_paid 80 = .ok (.iconst 0, 1) := by decide +kernel
theorem dL_paid_81 : decode cL_paid 81 = .ok (.iadd, 1) := by decide +kernel
theorem dL_paid_82 : decode cL_paid 82 = .ok (.istore 5, 2) := by decide +kernel
theorem dL_paid_84 : decode cL_paid 84 = .ok (.iinc 6 1, 3) := by decide +kernel
theorem dL_paid_87 : decode cL_paid 87 = .ok (.goto (-81), 3) := by decide +kernel
theorem dL_paid_90 : decode cL_paid 90 = .ok (.iload 5, 2) := by decide +kernel
theorem dL_paid_92 : decode cL_paid 92 = .ok (.ireturn, 1) := by decide +kernel
theorem dL_minutes_0 : decode cL_minutes 0 = .ok (.iconst 0, 1) := by decide +kernel
theorem dL_minutes_1 : decode cL_minutes 1 = .ok (.istore 5, 2) := by decide +kernel
theorem dL_minutes_3 : decode cL_minutes 3 = .ok (.iconst 0, 1) := by decide +kernel
theorem dL_minutes_4 : decode cL_minutes 4 = .ok (.istore 6, 2) := by decide +kernel
theorem dL_minutes_6 : decode cL_minutes 6 = .ok (.iload 6, 2) := by decide +kernel
theorem dL_minutes_8 : decode cL_minutes 8 = .ok (.aload 4, 2) := by decide +kernel
theorem dL_minutes_10 : decode cL_minutes 10 = .ok (.iconst 3, 1) := by decide +kernel
theorem dL_minutes_11 : decode cL_minutes 11 = .ok (.iaload, 1) := by decide +kernel
theorem dL_minutes_12 : decode cL_minutes 12 = .ok (.if_icmp .ge 46, 3) := by decide +kernel
theorem dL_minutes_15 : decode cL_minutes 15 = .ok (.iload 5, 2) := by decide +kernel
theorem dL_minutes_17 : decode cL_minutes 17 = .ok (.aload_n 2, 1) := by decide +kernel
theorem dL_minutes_18 : decode cL_minutes 18 = .ok (.iload 6, 2) := by decide +kernel
theorem dL_minutes_20 : decode cL_minutes 20 = .ok (.iaload, 1) := by decide +kernel
theorem dL_minutes_21 : decode cL_minutes 21 = .ok (.bipush 63, 2) := by decide +kernel
theorem dL_minutes_23 : decode cL_minutes 23 = .ok (.iand, 1) := by decide +kernel
theorem dL_minutes_24 : decode cL_minutes 24 = .ok (.iload_n 0, 1) := by decide +kernel
theorem dL_minutes_25 : decode cL_minutes 25 = .ok (.if_icmp .ne 23, 3) := by decide +kernel
theorem dL_minutes_28 : decode cL_minutes 28 = .ok (.aload_n 2, 1) := by decide +kernel
theorem dL_minutes_29 : decode cL_minutes 29 = .ok (.iload 6, 2) := by decide +kernel
theorem dL_minutes_31 : decode cL_minutes 31 = .ok (.iaload, 1) := by decide +kernel
theorem dL_minutes_32 : decode cL_minutes 32 = .ok (.bipush 6, 2) := by decide +kernel
theorem dL_minutes_34 : decode cL_minutes 34 = .ok (.ishr, 1) := by decide +kernel
theorem dL_minutes_35 : decode cL_minutes 35 = .ok (.iconst 3, 1) := by decide +kernel
theorem dL_minutes_36 : decode cL_minutes 36 = .ok (.iand, 1) := by decide +kernel
theorem dL_minutes_37 : decode cL_minutes 37 = .ok (.iload_n 1, 1) := by decide +kernel
theorem dL_minutes_38 : decode cL_minutes 38 = .ok (.if_icmp .ne 10, 3) := by decide +kernel
theorem dL_minutes_41 : decode cL_minutes 41 = .ok (.aload_n 3, 1) := by decide +kernel
theorem dL_minutes_42 : decode cL_minutes 42 = .ok (.iload 6, 2) := by decide +kernel
theorem dL_minutes_44 : decode cL_minutes 44 = .ok (.iaload, 1) := by decide +kernel
theorem dL_minutes_45 : decode cL_minutes 45 = .ok (.goto 4, 3) := by decide +kernel
theorem dL_minutes_48 : decode cL_minutes 48 = .ok (.iconst 0, 1) := by decide +kernel
theorem dL_minutes_49 : decode cL_minutes 49 = .ok (.iadd, 1) := by decide +kernel
theorem dL_minutes_50 : decode cL_minutes 50 = .ok (.istore 5, 2) := by decide +kernel
theorem dL_minutes_52 : decode cL_minutes 52 = .ok (.iinc 6 1, 3) := by decide +kernel
theorem dL_minutes_55 : decode cL_minutes 55 = .ok (.goto (-49), 3) := by decide +kernel
theorem dL_minutes_58 : decode cL_minutes 58 = .ok (.iload 5, 2) := by decide +kernel
theorem dL_minutes_60 : decode cL_minutes 60 = .ok (.ireturn, 1) := by decide +kernel
theorem dL_isTold_0 : decode cL_isTold 0 = .ok (.iconst 0, 1) := by decide +kernel
theorem dL_isTold_1 : decode cL_isTold 1 = .ok (.istore 10, 2) := by decide +kernel
theorem dL_isTold_3 : decode cL_isTold 3 = .ok (.iload 10, 2) := by decide +kernel
theorem dL_isTold_5 : decode cL_isTold 5 = .ok (.aload 9, 2) := by decide +kernel
theorem dL_isTold_7 : decode cL_isTold 7 = .ok (.iconst 1, 1) := by decide +kernel
theorem dL_isTold_8 : decode cL_isTold 8 = .ok (.iaload, 1) := by decide +kernel
theorem dL_isTold_9 : decode cL_isTold 9 = .ok (.if_icmp .ge 410, 3) := by decide +kernel
theorem dL_isTold_12 : decode cL_isTold 12 = .ok (.iload 10, 2) := by decide +kernel
theorem dL_isTold_14 : decode cL_isTold 14 = .ok (.iconst 1, 1) := by decide +kernel
theorem dL_isTold_15 : decode cL_isTold 15 = .ok (.aload 7, 2) := by decide +kernel
theorem dL_isTold_17 : decode cL_isTold 17 = .ok (.aload 8, 2) := by decide +kernel
theorem dL_isTold_19 : decode cL_isTold 19 = .ok (.aload 9, 2) := by decide +kernel
theorem dL_isTold_21 : decode cL_isTold 21 = .ok (.invokestatic 106, 3) := by decide +kernel
theorem dL_isTold_24 : decode cL_isTold 24 = .ok (.istore 11, 2) := by decide +kernel
theorem dL_isTold_26 : decode cL_isTold 26 = .ok (.iload 10, 2) := by decide +kernel
theorem dL_isTold_28 : decode cL_isTold 28 = .ok (.iconst 0, 1) := by decide +kernel
theorem dL_isTold_29 : decode cL_isTold 29 = .ok (.aload 7, 2) := by decide +kernel
theorem dL_isTold_31 : decode cL_isTold 31 = .ok (.aload 8, 2) := by decide +kernel
theorem dL_isTold_33 : decode cL_isTold 33 = .ok (.aload 9, 2) := by decide +kernel
theorem dL_isTold_35 : decode cL_isTold 35 = .ok (.invokestatic 106, 3) := by decide +kernel
theorem dL_isTold_38 : decode cL_isTold 38 = .ok (.istore 12, 2) := by decide +kernel
theorem dL_isTold_40 : decode cL_isTold 40 = .ok (.aload_n 2, 1) := by decide +kernel
theorem dL_isTold_41 : decode cL_isTold 41 = .ok (.bipush 8, 2) := by decide +kernel
theorem dL_isTold_43 : decode cL_isTold 43 = .ok (.iload 10, 2) := by decide +kernel
theorem dL_isTold_45 : decode cL_isTold 45 = .ok (.imul, 1) := by decide +kernel
theorem dL_isTold_46 : decode cL_isTold 46 = .ok (.iconst 3, 1) := by decide +kernel
theorem dL_isTold_47 : decode cL_isTold 47 = .ok (.iadd, 1) := by decide +kernel
theorem dL_isTold_48 : decode cL_isTold 48 = .ok (.iaload, 1) := by decide +kernel
theorem dL_isTold_49 : decode cL_isTold 49 = .ok (.istore 13, 2) := by decide +kernel
theorem dL_isTold_51 : decode cL_isTold 51 = .ok (.aload_n 0, 1) := by decide +kernel
theorem dL_isTold_52 : decode cL_isTold 52 = .ok (.iload 10, 2) := by decide +kernel
theorem dL_isTold_54 : decode cL_isTold 54 = .ok (.iconst 0, 1) := by decide +kernel
theorem dL_isTold_55 : decode cL_isTold 55 = .ok (.invokestatic 110, 3) := by decide +kernel
theorem dL_isTold_58 : decode cL_isTold 58 = .ok (.iload 13, 2) := by decide +kernel
theorem dL_isTold_60 : decode cL_isTold 60 = .ok (.if_icmp .ne 149, 3) := by decide +kernel
theorem dL_isTold_63 : decode cL_isTold 63 = .ok (.aload_n 0, 1) := by decide +kernel
theorem dL_isTold_64 : decode cL_isTold 64 = .ok (.iload 10, 2) := by decide +kernel
theorem dL_isTold_66 : decode cL_isTold 66 = .ok (.iconst 1, 1) := by decide +kernel
theorem dL_isTold_67 : decode cL_isTold 67 = .ok (.invokestatic 110, 3) := by decide +kernel
theorem dL_isTold_70 : decode cL_isTold 70 = .ok (.aload_n 2, 1) := by decide +kernel
theorem dL_isTold_71 : decode cL_isTold 71 = .ok (.bipush 8, 2) := by decide +kernel
theorem dL_isTold_73 : decode cL_isTold 73 = .ok (.iload 10, 2) := by decide +kernel
theorem dL_isTold_75 : decode cL_isTold 75 = .ok (.imul, 1) := by decide +kernel
theorem dL_isTold_76 : decode cL_isTold 76 = .ok (.iconst 1, 1) := by decide +kernel
theorem dL_isTold_77 : decode cL_isTold 77 = .ok (.iadd, 1) := by decide +kernel
theorem dL_isTold_78 : decode cL_isTold 78 = .ok (.iaload, 1) := by decide +kernel
theorem dL_isTold_79 : decode cL_isTold 79 = .ok (.if_icmp .ne 130, 3) := by decide +kernel
theorem dL_isTold_82 : decode cL_isTold 82 = .ok (.aload_n 0, 1) := by decide +kernel
theorem dL_isTold_83 : decode cL_isTold 83 = .ok (.iload 10, 2) := by decide +kernel
theorem dL_isTold_85 : decode cL_isTold 85 = .ok (.iconst 2, 1) := by decide +kernel
theorem dL_isTold_86 : decode cL_isTold 86 = .ok (.invokestatic 110, 3) := by decide +kernel
theorem dL_isTold_89 : decode cL_isTold 89 = .ok (.aload_n 2, 1) := by decide +kernel
theorem dL_isTold_90 : decode cL_isTold 90 = .ok (.bipush 8, 2) := by decide +kernel
theorem dL_isTold_92 : decode cL_isTold 92 = .ok (.iload 10, 2) := by decide +kernel
theorem dL_isTold_94 : decode cL_isTold 94 = .ok (.imul, 1) := by decide +kernel
theorem dL_isTold_95 : decode cL_isTold 95 = .ok (.iconst 4, 1) := by decide +kernel
theorem dL_isTold_96 : decode cL_isTold 96 = .ok (.iadd, 1) := by decide +kernel
theorem dL_isTold_97 : decode cL_isTold 97 = .ok (.iaload, 1) := by decide +kernel
theorem dL_isTold_98 : decode cL_isTold 98 = .ok (.if_icmp .ne 111, 3) := by decide +kernel
theorem dL_isTold_101 : decode cL_isTold 101 = .ok (.aload_n 0, 1) := by decide +kernel
theorem dL_isTold_102 : decode cL_isTold 102 = .ok (.iload 10, 2) := by decide +kernel
theorem dL_isTold_104 : decode cL_isTold 104 = .ok (.iconst 3, 1) := by decide +kernel
theorem dL_isTold_105 : decode cL_isTold 105 = .ok (.invokestatic 110, 3) := by decide +kernel
theorem dL_isTold_108 : decode cL_isTold 108 = .ok (.iload 12, 2) := by decide +kernel
theorem dL_isTold_110 : decode cL_isTold 110 = .ok (.if_icmp .ne 99, 3) := by decide +kernel
theorem dL_isTold_113 : decode cL_isTold 113 = .ok (.aload_n 0, 1) := by decide +kernel
theorem dL_isTold_114 : decode cL_isTold 114 = .ok (.iload 10, 2) := by decide +kernel
theorem dL_isTold_116 : decode cL_isTold 116 = .ok (.invokestatic 113, 3) := by decide +kernel
theorem dL_isTold_119 : decode cL_isTold 119 = .ok (.iload 12, 2) := by decide +kernel
theorem dL_isTold_121 : decode cL_isTold 121 = .ok (.if_icmp .ne 88, 3) := by decide +kernel
theorem dL_isTold_124 : decode cL_isTold 124 = .ok (.aload_n 0, 1) := by decide +kernel
theorem dL_isTold_125 : decode cL_isTold 125 = .ok (.iload 10, 2) := by decide +kernel
theorem dL_isTold_127 : decode cL_isTold 127 = .ok (.iconst 4, 1) := by decide +kernel
theorem dL_isTold_128 : decode cL_isTold 128 = .ok (.invokestatic 110, 3) := by decide +kernel
theorem dL_isTold_131 : decode cL_isTold 131 = .ok (.iload 11, 2) := by decide +kernel
theorem dL_isTold_133 : decode cL_isTold 133 = .ok (.if_icmp .ne 76, 3) := by decide +kernel
theorem dL_isTold_136 : decode cL_isTold 136 = .ok (.aload_n 0, 1) := by decide +kernel
theorem dL_isTold_137 : decode cL_isTold 137 = .ok (.iload 10, 2) := by decide +kernel
theorem dL_isTold_139 : decode cL_isTold 139 = .ok (.iconst 5, 1) := by decide +kernel
theorem dL_isTold_140 : decode cL_isTold 140 = .ok (.invokestatic 110, 3) := by decide +kernel
theorem dL_isTold_143 : decode cL_isTold 143 = .ok (.iconst 5, 1) := by decide +kernel
theorem dL_isTold_144 : decode cL_isTold 144 = .ok (.iload 11, 2) := by decide +kernel
theorem dL_isTold_146 : decode cL_isTold 146 = .ok (.imul, 1) := by decide +kernel
theorem dL_isTold_147 : decode cL_isTold 147 = .ok (.iconst 4, 1) := by decide +kernel
theorem dL_isTold_148 : decode cL_isTold 148 = .ok (.aload_n 2, 1) := by decide +kernel
theorem dL_isTold_149 : decode cL_isTold 149 = .ok (.bipush 8, 2) := by decide +kernel
theorem dL_isTold_151 : decode cL_isTold 151 = .ok (.iload 10, 2) := by decide +kernel
theorem dL_isTold_153 : decode cL_isTold 153 = .ok (.imul, 1) := by decide +kernel
theorem dL_isTold_154 : decode cL_isTold 154 = .ok (.bipush 6, 2) := by decide +kernel
theorem dL_isTold_156 : decode cL_isTold 156 = .ok (.iadd, 1) := by decide +kernel
theorem dL_isTold_157 : decode cL_isTold 157 = .ok (.iaload, 1) := by decide +kernel
theorem dL_isTold_158 : decode cL_isTold 158 = .ok (.imul, 1) := by decide +kernel
theorem dL_isTold_159 : decode cL_isTold 159 = .ok (.if_icmp .lt 7, 3) := by decide +kernel
theorem dL_isTold_162 : decode cL_isTold 162 = .ok (.iconst 1, 1) := by decide +kernel
theorem dL_isTold_163 : decode cL_isTold 163 = .ok (.goto 4, 3) := by decide +kernel
theorem dL_isTold_166 : decode cL_isTold 166 = .ok (.iconst 0, 1) := by decide +kernel
theorem dL_isTold_167 : decode cL_isTold 167 = .ok (.if_icmp .ne 42, 3) := by decide +kernel
theorem dL_isTold_170 : decode cL_isTold 170 = .ok (.aload_n 0, 1) := by decide +kernel
theorem dL_isTold_171 : decode cL_isTold 171 = .ok (.iload 10, 2) := by decide +kernel
theorem dL_isTold_173 : decode cL_isTold 173 = .ok (.bipush 6, 2) := by decide +kernel
theorem dL_isTold_175 : decode cL_isTold 175 = .ok (.invokestatic 110, 3) := by decide +kernel
theorem dL_isTold_178 : decode cL_isTold 178 = .ok (.aload_n 2, 1) := by decide +kernel
theorem dL_isTold_179 : decode cL_isTold 179 = .ok (.bipush 8, 2) := by decide +kernel
theorem dL_isTold_181 : decode cL_isTold 181 = .ok (.iload 10, 2) := by decide +kernel
theorem dL_isTold_183 : decode cL_isTold 183 = .ok (.imul, 1) := by decide +kernel
theorem dL_isTold_184 : decode cL_isTold 184 = .ok (.bipush 6, 2) := by decide +kernel
theorem dL_isTold_186 : decode cL_isTold 186 = .ok (.iadd, 1) := by decide +kernel
theorem dL_isTold_187 : decode cL_isTold 187 = .ok (.iaload, 1) := by decide +kernel
theorem dL_isTold_188 : decode cL_isTold 188 = .ok (.if_icmp .ne 21, 3) := by decide +kernel
theorem dL_isTold_191 : decode cL_isTold 191 = .ok (.aload_n 0, 1) := by decide +kernel
theorem dL_isTold_192 : decode cL_isTold 192 = .ok (.iload 10, 2) := by decide +kernel
theorem dL_isTold_194 : decode cL_isTold 194 = .ok (.invokestatic 116, 3) := by decide +kernel
theorem dL_isTold_197 : decode cL_isTold 197 = .ok (.aload_n 2, 1) := by decide +kernel
theorem dL_isTold_198 : decode cL_isTold 198 = .ok (.bipush 8, 2) := by decide +kernel
theorem dL_isTold_200 : decode cL_isTold 200 = .ok (.iload 10, 2) := by decide +kernel
theorem dL_isTold_202 : decode cL_isTold 202 = .ok (.imul, 1) := by decide +kernel
theorem dL_isTold_203 : decode cL_isTold 203 = .ok (.iconst 5, 1) := by decide +kernel
theorem dL_isTold_204 : decode cL_isTold 204 = .ok (.iadd, 1) := by decide +kernel
theorem dL_isTold_205 : decode cL_isTold 205 = .ok (.iaload, 1) := by decide +kernel
theorem dL_isTold_206 : decode cL_isTold 206 = .ok (.if_icmp .eq 5, 3) := by decide +kernel
theorem dL_isTold_209 : decode cL_isTold 209 = .ok (.iconst 0, 1) := by decide +kernel
theorem dL_isTold_210 : decode cL_isTold 210 = .ok (.ireturn, 1) := by decide +kernel
theorem dL_isTold_211 : decode cL_isTold 211 = .ok (.iconst 0, 1) := by decide +kernel
theorem dL_isTold_212 : decode cL_isTold 212 = .ok (.istore 14, 2) := by decide +kernel
theorem dL_isTold_214 : decode cL_isTold 214 = .ok (.iconst (-1), 1) := by decide +kernel
theorem dL_isTold_215 : decode cL_isTold 215 = .ok (.istore 15, 2) := by decide +kernel
theorem dL_isTold_217 : decode cL_isTold 217 = .ok (.iconst 5, 1) := by decide +kernel
theorem dL_isTold_218 : decode cL_isTold 218 = .ok (.istore 16, 2) := by decide +kernel
theorem dL_isTold_220 : decode cL_isTold 220 = .ok (.iload 16, 2) := by decide +kernel
theorem dL_isTold_222 : decode cL_isTold 222 = .ok (.ifCond .lt 99, 3) := by decide +kernel
theorem dL_isTold_225 : decode cL_isTold 225 = .ok (.aload_n 0, 1) := by decide +kernel
theorem dL_isTold_226 : decode cL_isTold 226 = .ok (.iload 16, 2) := by decide +kernel
theorem dL_isTold_228 : decode cL_isTold 228 = .ok (.iload 10, 2) := by decide +kernel
theorem dL_isTold_230 : decode cL_isTold 230 = .ok (.invokestatic 118, 3) := by decide +kernel
theorem dL_isTold_233 : decode cL_isTold 233 = .ok (.aload_n 3, 1) := by decide +kernel
theorem dL_isTold_234 : decode cL_isTold 234 = .ok (.bipush 6, 2) := by decide +kernel
theorem dL_isTold_236 : decode cL_isTold 236 = .ok (.iload 16, 2) := by decide +kernel
theorem dL_isTold_238 : decode cL_isTold 238 = .ok (.imul, 1) := by decide +kernel
theorem dL_isTold_239 : decode cL_isTold 239 = .ok (.iload 10, 2) := by decide +kernel
theorem dL_isTold_241 : decode cL_isTold 241 = .ok (.iadd, 1) := by decide +kernel
theorem dL_isTold_242 : decode cL_isTold 242 = .ok (.iaload, 1) := by decide +kernel
theorem dL_isTold_243 : decode cL_isTold 243 = .ok (.if_icmp .eq 5, 3) := by decide +kernel
theorem dL_isTold_246 : decode cL_isTold 246 = .ok (.iconst 0, 1) := by decide +kernel
theorem dL_isTold_247 : decode cL_isTold 247 = .ok (.ireturn, 1) := by decide +kernel
theorem dL_isTold_248 : decode cL_isTold 248 = .ok (.iload 14, 2) := by decide +kernel
theorem dL_isTold_250 : decode cL_isTold 250 = .ok (.aload_n 3, 1) := by decide +kernel
theorem dL_isTold_251 : decode cL_isTold 251 = .ok (.bipush 6, 2) := by decide +kernel
theorem dL_isTold_253 : decode cL_isTold 253 = .ok (.iload 16, 2) := by decide +kernel
theorem dL_isTold_255 : decode cL_isTold 255 = .ok (.imul, 1) := by decide +kernel
theorem dL_isTold_256 : decode cL_isTold 256 = .ok (.iload 10, 2) := by decide +kernel
theorem dL_isTold_258 : decode cL_isTold 258 = .ok (.iadd, 1) := by decide +kernel
theorem dL_isTold_259 : decode cL_isTold 259 = .ok (.iaload, 1) := by decide +kernel
theorem dL_isTold_260 : decode cL_isTold 260 = .ok (.iconst (-1), 1) := by decide +kernel
theorem dL_isTold_261 : decode cL_isTold 261 = .ok (.if_icmp .ne 7, 3) := by decide +kernel
theorem dL_isTold_264 : decode cL_isTold 264 = .ok (.iconst 0, 1) := by decide +kernel
theorem dL_isTold_265 : decode cL_isTold 265 = .ok (.goto 7, 3) := by decide +kernel
theorem dL_isTold_268 : decode cL_isTold 268 = .ok (.iconst 1, 1) := by decide +kernel
theorem dL_isTold_269 : decode cL_isTold 269 = .ok (.iload 16, 2) := by decide +kernel
theorem dL_isTold_271 : decode cL_isTold 271 = .ok (.ishl, 1) := by decide +kernel
theorem dL_isTold_272 : decode cL_isTold 272 = .ok (.ior, 1) := by decide +kernel
theorem dL_isTold_273 : decode cL_isTold 273 = .ok (.istore 14, 2) := by decide +kernel
theorem dL_isTold_275 : decode cL_isTold 275 = .ok (.aload 9, 2) := by decide +kernel
theorem dL_isTold_277 : decode cL_isTold 277 = .ok (.bipush 18, 2) := by decide +kernel
theorem dL_isTold_279 : decode cL_isTold 279 = .ok (.aload_n 2, 1) := by decide +kernel
theorem dL_isTold_280 : decode cL_isTold 280 = .ok (.bipush 8, 2) := by decide +kernel
theorem dL_isTold_282 : decode cL_isTold 282 = .ok (.iload 10, 2) := by decide +kernel
theorem dL_isTold_284 : decode cL_isTold 284 = .ok (.imul, 1) := by decide +kernel
theorem dL_isTold_285 : decode cL_isTold 285 = .ok (.iconst 1, 1) := by decide +kernel
theorem dL_isTold_286 : decode cL_isTold 286 = .ok (.iadd, 1) := by decide +kernel
theorem dL_isTold_287 : decode cL_isTold 287 = .ok (.iaload, 1) := by decide +kernel
theorem dL_isTold_288 : decode cL_isTold 288 = .ok (.iadd, 1) := by decide +kernel
theorem dL_isTold_289 : decode cL_isTold 289 = .ok (.iaload, 1) := by decide +kernel
theorem dL_isTold_290 : decode cL_isTold 290 = .ok (.iload 16, 2) := by decide +kernel
theorem dL_isTold_292 : decode cL_isTold 292 = .ok (.ishr, 1) := by decide +kernel
theorem dL_isTold_293 : decode cL_isTold 293 = .ok (.iconst 1, 1) := by decide +kernel
theorem dL_isTold_294 : decode cL_isTold 294 = .ok (.iand, 1) := by decide +kernel
theorem dL_isTold_295 : decode cL_isTold 295 = .ok (.iconst 1, 1) := by decide +kernel
theorem dL_isTold_296 : decode cL_isTold 296 = .ok (.if_icmp .ne 19, 3) := by decide +kernel
theorem dL_isTold_299 : decode cL_isTold 299 = .ok (.aload 9, 2) := by decide +kernel
theorem dL_isTold_301 : decode cL_isTold 301 = .ok (.iconst 5, 1) := by decide +kernel
theorem dL_isTold_302 : decode cL_isTold 302 = .ok (.iaload, 1) := by decide +kernel
theorem dL_isTold_303 : decode cL_isTold 303 = .ok (.iload 16, 2) := by decide +kernel
theorem dL_isTold_305 : decode cL_isTold 305 = .ok (.ishr, 1) := by decide +kernel
theorem dL_isTold_306 : decode cL_isTold 306 = .ok (.iconst 1, 1) := by decide +kernel
theorem dL_isTold_307 : decode cL_isTold 307 = .ok (.iand, 1) := by decide +kernel
theorem dL_isTold_308 : decode cL_isTold 308 = .ok (.ifCond .ne 7, 3) := by decide +kernel
theorem dL_isTold_311 : decode cL_isTold 311 = .ok (.iload 16, 2) := by decide +kernel
theorem dL_isTold_313 : decode cL_isTold 313 = .ok (.istore 15, 2) := by decide +kernel
theorem dL_isTold_315 : decode cL_isTold 315 = .ok (.iinc 16 (-1), 3) := by decide +kernel
theorem dL_isTold_318 : decode cL_isTold 318 = .ok (.goto (-98), 3) := by decide +kernel
theorem dL_isTold_321 : decode cL_isTold 321 = .ok (.iload 13, 2) := by decide +kernel
theorem dL_isTold_323 : decode cL_isTold 323 = .ok (.iconst (-1), 1) := by decide +kernel
theorem dL_isTold_324 : decode cL_isTold 324 = .ok (.if_icmp .ne 16, 3) := by decide +kernel
theorem dL_isTold_327 : decode cL_isTold 327 = .ok (.iload 14, 2) := by decide +kernel
theorem dL_isTold_329 : decode cL_isTold 329 = .ok (.ifCond .ne 7, 3) := by decide +kernel
theorem dL_isTold_332 : decode cL_isTold 332 = .ok (.iconst 1, 1) := by decide +kernel
theorem dL_isTold_333 : decode cL_isTold 333 = .ok (.goto 35, 3) := by decide +kernel
theorem dL_isTold_336 : decode cL_isTold 336 = .ok (.iconst 0, 1) := by decide +kernel
theorem dL_isTold_337 : decode cL_isTold 337 = .ok (.goto 31, 3) := by decide +kernel
theorem dL_isTold_340 : decode cL_isTold 340 = .ok (.iload 14, 2) := by decide +kernel
theorem dL_isTold_342 : decode cL_isTold 342 = .ok (.iconst 1, 1) := by decide +kernel
theorem dL_isTold_343 : decode cL_isTold 343 = .ok (.iload 13, 2) := by decide +kernel
theorem dL_isTold_345 : decode cL_isTold 345 = .ok (.ishl, 1) := by decide +kernel
theorem dL_isTold_346 : decode cL_isTold 346 = .ok (.if_icmp .ne 21, 3) := by decide +kernel
theorem dL_isTold_349 : decode cL_isTold 349 = .ok (.aload_n 2, 1) := by decide +kernel
theorem dL_isTold_350 : decode cL_isTold 350 = .ok (.bipush 8, 2) := by decide +kernel
theorem dL_isTold_352 : decode cL_isTold 352 = .ok (.iload 10, 2) := by decide +kernel
theorem dL_isTold_354 : decode cL_isTold 354 = .ok (.imul, 1) := by decide +kernel
theorem dL_isTold_355 : decode cL_isTold 355 = .ok (.iconst 5, 1) := by decide +kernel
theorem dL_isTold_356 : decode cL_isTold 356 = .ok (.iadd, 1) := by decide +kernel
theorem dL_isTold_357 : decode cL_isTold 357 = .ok (.iaload, 1) := by decide +kernel
theorem dL_isTold_358 : decode cL_isTold 358 = .ok (.iload 13, 2) := by decide +kernel
theorem dL_isTold_360 : decode cL_isTold 360 = .ok (.if_icmp .ne 7, 3) := by decide +kernel
theorem dL_isTold_363 : decode cL_isTold 363 = .ok (.iconst 1, 1) := by decide +kernel
theorem dL_isTold_364 : decode cL_isTold 364 = .ok (.goto 4, 3) := by decide +kernel
theorem dL_isTold_367 : decode cL_isTold 367 = .ok (.iconst 0, 1) := by decide +kernel
theorem dL_isTold_368 : decode cL_isTold 368 = .ok (.istore 16, 2) := by decide +kernel
theorem dL_isTold_370 : decode cL_isTold 370 = .ok (.aload_n 0, 1) := by decide +kernel
theorem dL_isTold_371 : decode cL_isTold 371 = .ok (.iload 10, 2) := by decide +kernel
theorem dL_isTold_373 : decode cL_isTold 373 = .ok (.invokestatic 120, 3) := by decide +kernel
theorem dL_isTold_376 : decode cL_isTold 376 = .ok (.iload 16, 2) := by decide +kernel
theorem dL_isTold_378 : decode cL_isTold 378 = .ok (.ifCond .eq 7, 3) := by decide +kernel
theorem dL_isTold_381 : decode cL_isTold 381 = .ok (.iconst 1, 1) := by decide +kernel
theorem dL_isTold_382 : decode cL_isTold 382 = .ok (.goto 4, 3) := by decide +kernel
theorem dL_isTold_385 : decode cL_isTold 385 = .ok (.iconst 0, 1) := by decide +kernel
theorem dL_isTold_386 : decode cL_isTold 386 = .ok (.if_icmp .ne 25, 3) := by decide +kernel
theorem dL_isTold_389 : decode cL_isTold 389 = .ok (.aload_n 0, 1) := by decide +kernel
theorem dL_isTold_390 : decode cL_isTold 390 = .ok (.iload 10, 2) := by decide +kernel
theorem dL_isTold_392 : decode cL_isTold 392 = .ok (.invokestatic 122, 3) := by decide +kernel
theorem dL_isTold_395 : decode cL_isTold 395 = .ok (.iload 13, 2) := by decide +kernel
theorem dL_isTold_397 : decode cL_isTold 397 = .ok (.iconst (-1), 1) := by decide +kernel
theorem dL_isTold_398 : decode cL_isTold 398 = .ok (.if_icmp .ne 8, 3) := by decide +kernel
theorem dL_isTold_401 : decode cL_isTold 401 = .ok (.iload 15, 2) := by decide +kernel
theorem dL_isTold_403 : decode cL_isTold 403 = .ok (.goto 5, 3) := by decide +kernel
theorem dL_isTold_406 : decode cL_isTold 406 = .ok (.iload 13, 2) := by decide +kernel
theorem dL_isTold_408 : decode cL_isTold 408 = .ok (.if_icmp .eq 5, 3) := by decide +kernel
theorem dL_isTold_411 : decode cL_isTold 411 = .ok (.iconst 0, 1) := by decide +kernel
theorem dL_isTold_412 : decode cL_isTold 412 = .ok (.ireturn, 1) := by decide +kernel
theorem dL_isTold_413 : decode cL_isTold 413 = .ok (.iinc 10 1, 3) := by decide +kernel
theorem dL_isTold_416 : decode cL_isTold 416 = .ok (.goto (-413), 3) := by decide +kernel
theorem dL_isTold_419 : decode cL_isTold 419 = .ok (.iload_n 1, 1) := by decide +kernel
theorem dL_isTold_420 : decode cL_isTold 420 = .ok (.bipush 6, 2) := by decide +kernel
theorem dL_isTold_422 : decode cL_isTold 422 = .ok (.invokestatic 124, 3) := by decide +kernel
theorem dL_isTold_425 : decode cL_isTold 425 = .ok (.istore 10, 2) := by decide +kernel
theorem dL_isTold_427 : decode cL_isTold 427 = .ok (.iload_n 1, 1) := by decide +kernel
theorem dL_isTold_428 : decode cL_isTold 428 = .ok (.iconst 5, 1) := by decide +kernel
theorem dL_isTold_429 : decode cL_isTold 429 = .ok (.ishr, 1) := by decide +kernel
theorem dL_isTold_430 : decode cL_isTold 430 = .ok (.bipush 6, 2) := by decide +kernel
theorem dL_isTold_432 : decode cL_isTold 432 = .ok (.invokestatic 124, 3) := by decide +kernel
theorem dL_isTold_435 : decode cL_isTold 435 = .ok (.istore 11, 2) := by decide +kernel
theorem dL_isTold_437 : decode cL_isTold 437 = .ok (.iload 10, 2) := by decide +kernel
theorem dL_isTold_439 : decode cL_isTold 439 = .ok (.iload 11, 2) := by decide +kernel
theorem dL_isTold_441 : decode cL_isTold 441 = .ok (.iconst 3, 1) := by decide +kernel
theorem dL_isTold_442 : decode cL_isTold 442 = .ok (.ishl, 1) := by decide +kernel
theorem dL_isTold_443 : decode cL_isTold 443 = .ok (.ior, 1) := by decide +kernel
theorem dL_isTold_444 : decode cL_isTold 444 = .ok (.istore 12, 2) := by decide +kernel
theorem dL_isTold_446 : decode cL_isTold 446 = .ok (.iconst 0, 1) := by decide +kernel
theorem dL_isTold_447 : decode cL_isTold 447 = .ok (.istore 13, 2) := by decide +kernel
theorem dL_isTold_449 : decode cL_isTold 449 = .ok (.iload 13, 2) := by decide +kernel
theorem dL_isTold_451 : decode cL_isTold 451 = .ok (.iconst 4, 1) := by decide +kernel
theorem dL_isTold_452 : decode cL_isTold 452 = .ok (.if_icmp .ge 37, 3) := by decide +kernel
theorem dL_isTold_455 : decode cL_isTold 455 = .ok (.aload_n 0, 1) := by decide +kernel
theorem dL_isTold_456 : decode cL_isTold 456 = .ok (.iload 10, 2) := by decide +kernel
theorem dL_isTold_458 : decode cL_isTold 458 = .ok (.iload 11, 2) := by decide +kernel
theorem dL_isTold_460 : decode cL_isTold 460 = .ok (.iload 13, 2) := by decide +kernel
theorem dL_isTold_462 : decode cL_isTold 462 = .ok (.invokestatic 127, 3) := by decide +kernel
theorem dL_isTold_465 : decode cL_isTold 465 = .ok (.iload 12, 2) := by decide +kernel
theorem dL_isTold_467 : decode cL_isTold 467 = .ok (.iload 13, 2) := by decide +kernel
theorem dL_isTold_469 : decode cL_isTold 469 = .ok (.aload 5, 2) := by decide +kernel
theorem dL_isTold_471 : decode cL_isTold 471 = .ok (.aload 6, 2) := by decide +kernel
theorem dL_isTold_473 : decode cL_isTold 473 = .ok (.aload 9, 2) := by decide +kernel
theorem dL_isTold_475 : decode cL_isTold 475 = .ok (.invokestatic 130, 3) := by decide +kernel
theorem dL_isTold_478 : decode cL_isTold 478 = .ok (.if_icmp .eq 5, 3) := by decide +kernel
theorem dL_isTold_481 : decode cL_isTold 481 = .ok (.iconst 0, 1) := by decide +kernel
theorem dL_isTold_482 : decode cL_isTold 482 = .ok (.ireturn, 1) := by decide +kernel
theorem dL_isTold_483 : decode cL_isTold 483 = .ok (.iinc 13 1, 3) := by decide +kernel
theorem dL_isTold_486 : decode cL_isTold 486 = .ok (.goto (-37), 3) := by decide +kernel
theorem dL_isTold_489 : decode cL_isTold 489 = .ok (.iload 12, 2) := by decide +kernel
theorem dL_isTold_491 : decode cL_isTold 491 = .ok (.iconst 2, 1) := by decide +kernel
theorem dL_isTold_492 : decode cL_isTold 492 = .ok (.aload 5, 2) := by decide +kernel
theorem dL_isTold_494 : decode cL_isTold 494 = .ok (.aload 6, 2) := by decide +kernel
theorem dL_isTold_496 : decode cL_isTold 496 = .ok (.aload 9, 2) := by decide +kernel
theorem dL_isTold_498 : decode cL_isTold 498 = .ok (.invokestatic 130, 3) := by decide +kernel
theorem dL_isTold_501 : decode cL_isTold 501 = .ok (.istore 13, 2) := by decide +kernel
theorem dL_isTold_503 : decode cL_isTold 503 = .ok (.iconst 0, 1) := by decide +kernel
theorem dL_isTold_504 : decode cL_isTold 504 = .ok (.istore 14, 2) := by decide +kernel
theorem dL_isTold_506 : decode cL_isTold 506 = .ok (.iconst 0, 1) := by decide +kernel
theorem dL_isTold_507 : decode cL_isTold 507 = .ok (.istore 15, 2) := by decide +kernel
theorem dL_isTold_509 : decode cL_isTold 509 = .ok (.iload 15, 2) := by decide +kernel
theorem dL_isTold_511 : decode cL_isTold 511 = .ok (.aload 9, 2) := by decide +kernel
theorem dL_isTold_513 : decode cL_isTold 513 = .ok (.iconst 3, 1) := by decide +kernel
theorem dL_isTold_514 : decode cL_isTold 514 = .ok (.iaload, 1) := by decide +kernel
theorem dL_isTold_515 : decode cL_isTold 515 = .ok (.if_icmp .ge 122, 3) := by decide +kernel
theorem dL_isTold_518 : decode cL_isTold 518 = .ok (.aload 5, 2) := by decide +kernel
theorem dL_isTold_520 : decode cL_isTold 520 = .ok (.iload 15, 2) := by decide +kernel
theorem dL_isTold_522 : decode cL_isTold 522 = .ok (.iaload, 1) := by decide +kernel
theorem dL_isTold_523 : decode cL_isTold 523 = .ok (.bipush 13, 2) := by decide +kernel
theorem dL_isTold_525 : decode cL_isTold 525 = .ok (.ishr, 1) := by decide +kernel
theorem dL_isTold_526 : decode cL_isTold 526 = .ok (.iconst 1, 1) := by decide +kernel
theorem dL_isTold_527 : decode cL_isTold 527 = .ok (.isub, 1) := by decide +kernel
theorem dL_isTold_528 : decode cL_isTold 528 = .ok (.istore 16, 2) := by decide +kernel
theorem dL_isTold_530 : decode cL_isTold 530 = .ok (.aload 5, 2) := by decide +kernel
theorem dL_isTold_532 : decode cL_isTold 532 = .ok (.iload 15, 2) := by decide +kernel
theorem dL_isTold_534 : decode cL_isTold 534 = .ok (.iaload, 1) := by decide +kernel
theorem dL_isTold_535 : decode cL_isTold 535 = .ok (.bipush 63, 2) := by decide +kernel
theorem dL_isTold_537 : decode cL_isTold 537 = .ok (.iand, 1) := by decide +kernel
theorem dL_isTold_538 : decode cL_isTold 538 = .ok (.iload 12, 2) := by decide +kernel
theorem dL_isTold_540 : decode cL_isTold 540 = .ok (.if_icmp .ne 91, 3) := by decide +kernel
theorem dL_isTold_543 : decode cL_isTold 543 = .ok (.aload 5, 2) := by decide +kernel
theorem dL_isTold_545 : decode cL_isTold 545 = .ok (.iload 15, 2) := by decide +kernel
theorem dL_isTold_547 : decode cL_isTold 547 = .ok (.iaload, 1) := by decide +kernel
theorem dL_isTold_548 : decode cL_isTold 548 = .ok (.bipush 6, 2) := by decide +kernel
theorem dL_isTold_550 : decode cL_isTold 550 = .ok (.ishr, 1) := by decide +kernel
theorem dL_isTold_551 : decode cL_isTold 551 = .ok (.iconst 3, 1) := by decide +kernel
theorem dL_isTold_552 : decode cL_isTold 552 = .ok (.iand, 1) := by decide +kernel
theorem dL_isTold_553 : decode cL_isTold 553 = .ok (.iconst 2, 1) := by decide +kernel
theorem dL_isTold_554 : decode cL_isTold 554 = .ok (.if_icmp .ne 77, 3) := by decide +kernel
theorem dL_isTold_557 : decode cL_isTold 557 = .ok (.iload 16, 2) := by decide +kernel
theorem dL_isTold_559 : decode cL_isTold 559 = .ok (.iconst (-1), 1) := by decide +kernel
theorem dL_isTold_560 : decode cL_isTold 560 = .ok (.if_icmp .ne 6, 3) := by decide +kernel
theorem dL_isTold_563 : decode cL_isTold 563 = .ok (.goto 68, 3) := by decide +kernel
theorem dL_isTold_566 : decode cL_isTold 566 = .ok (.aload 4, 2) := by decide +kernel
theorem dL_isTold_568 : decode cL_isTold 568 = .ok (.bipush 6, 2) := by decide +kernel
theorem dL_isTold_570 : decode cL_isTold 570 = .ok (.iload 16, 2) := by decide +kernel
theorem dL_isTold_572 : decode cL_isTold 572 = .ok (.imul, 1) := by decide +kernel
theorem dL_isTold_573 : decode cL_isTold 573 = .ok (.iconst 4, 1) := by decide +kernel
theorem dL_isTold_574 : decode cL_isTold 574 = .ok (.iadd, 1) := by decide +kernel
theorem dL_isTold_575 : decode cL_isTold 575 = .ok (.iaload, 1) := by decide +kernel
theorem dL_isTold_576 : decode cL_isTold 576 = .ok (.ifCond .le 22, 3) := by decide +kernel
theorem dL_isTold_579 : decode cL_isTold 579 = .ok (.iload 13, 2) := by decide +kernel
theorem dL_isTold_581 : decode cL_isTold 581 = .ok (.aload 4, 2) := by decide +kernel
theorem dL_isTold_583 : decode cL_isTold 583 = .ok (.bipush 6, 2) := by decide +kernel
theorem dL_isTold_585 : decode cL_isTold 585 = .ok (.iload 16, 2) := by decide +kernel
theorem dL_isTold_587 : decode cL_isTold 587 = .ok (.imul, 1) := by decide +kernel
theorem dL_isTold_588 : decode cL_isTold 588 = .ok (.iconst 4, 1) := by decide +kernel
theorem dL_isTold_589 : decode cL_isTold 589 = .ok (.iadd, 1) := by decide +kernel
theorem dL_isTold_590 : decode cL_isTold 590 = .ok (.iaload, 1) := by decide +kernel
theorem dL_isTold_591 : decode cL_isTold 591 = .ok (.if_icmp .lt 7, 3) := by decide +kernel
theorem dL_isTold_594 : decode cL_isTold 594 = .ok (.iconst 1, 1) := by decide +kernel
theorem dL_isTold_595 : decode cL_isTold 595 = .ok (.goto 4, 3) := by decide +kernel
theorem dL_isTold_598 : decode cL_isTold 598 = .ok (.iconst 0, 1) := by decide +kernel
theorem dL_isTold_599 : decode cL_isTold 599 = .ok (.istore 17, 2) := by decide +kernel
theorem dL_isTold_601 : decode cL_isTold 601 = .ok (.iload 14, 2) := by decide +kernel
theorem dL_isTold_603 : decode cL_isTold 603 = .ok (.aload 6, 2) := by decide +kernel
theorem dL_isTold_605 : decode cL_isTold 605 = .ok (.iload 15, 2) := by decide +kernel
theorem dL_isTold_607 : decode cL_isTold 607 = .ok (.iaload, 1) := by decide +kernel
theorem dL_isTold_608 : decode cL_isTold 608 = .ok (.aload 4, 2) := by decide +kernel
theorem dL_isTold_610 : decode cL_isTold 610 = .ok (.bipush 6, 2) := by decide +kernel
theorem dL_isTold_612 : decode cL_isTold 612 = .ok (.iload 16, 2) := by decide +kernel
theorem dL_isTold_614 : decode cL_isTold 614 = .ok (.imul, 1) := by decide +kernel
theorem dL_isTold_615 : decode cL_isTold 615 = .ok (.iload 17, 2) := by decide +kernel
theorem dL_isTold_617 : decode cL_isTold 617 = .ok (.ifCond .eq 7, 3) := by decide +kernel
theorem dL_isTold_620 : decode cL_isTold 620 = .ok (.iconst 5, 1) := by decide +kernel
theorem dL_isTold_621 : decode cL_isTold 621 = .ok (.goto 4, 3) := by decide +kernel
theorem dL_isTold_624 : decode cL_isTold 624 = .ok (.iconst 3, 1) := by decide +kernel
theorem dL_isTold_625 : decode cL_isTold 625 = .ok (.iadd, 1) := by decide +kernel
theorem dL_isTold_626 : decode cL_isTold 626 = .ok (.iaload, 1) := by decide +kernel
theorem dL_isTold_627 : decode cL_isTold 627 = .ok (.imul, 1) := by decide +kernel
theorem dL_isTold_628 : decode cL_isTold 628 = .ok (.iadd, 1) := by decide +kernel
theorem dL_isTold_629 : decode cL_isTold 629 = .ok (.istore 14, 2) := by decide +kernel
theorem dL_isTold_631 : decode cL_isTold 631 = .ok (.iinc 15 1, 3) := by decide +kernel
theorem dL_isTold_634 : decode cL_isTold 634 = .ok (.goto (-125), 3) := by decide +kernel
theorem dL_isTold_637 : decode cL_isTold 637 = .ok (.aload_n 0, 1) := by decide +kernel
theorem dL_isTold_638 : decode cL_isTold 638 = .ok (.iload 11, 2) := by decide +kernel
theorem dL_isTold_640 : decode cL_isTold 640 = .ok (.iload 10, 2) := by decide +kernel
theorem dL_isTold_642 : decode cL_isTold 642 = .ok (.invokestatic 134, 3) := by decide +kernel
theorem dL_isTold_645 : decode cL_isTold 645 = .ok (.iload 14, 2) := by decide +kernel
theorem dL_isTold_647 : decode cL_isTold 647 = .ok (.if_icmp .ne 35, 3) := by decide +kernel
theorem dL_isTold_650 : decode cL_isTold 650 = .ok (.aload_n 0, 1) := by decide +kernel
theorem dL_isTold_651 : decode cL_isTold 651 = .ok (.iload 11, 2) := by decide +kernel
theorem dL_isTold_653 : decode cL_isTold 653 = .ok (.iload 10, 2) := by decide +kernel
theorem dL_isTold_655 : decode cL_isTold 655 = .ok (.invokestatic 136, 3) := by decide +kernel
theorem dL_isTold_658 : decode cL_isTold 658 = .ok (.iload 14, 2) := by decide +kernel
theorem dL_isTold_660 : decode cL_isTold 660 = .ok (.if_icmp .ne 22, 3) := by decide +kernel
theorem dL_isTold_663 : decode cL_isTold 663 = .ok (.aload_n 0, 1) := by decide +kernel
theorem dL_isTold_664 : decode cL_isTold 664 = .ok (.iconst 0, 1) := by decide +kernel
theorem dL_isTold_665 : decode cL_isTold 665 = .ok (.aload 9, 2) := by decide +kernel
theorem dL_isTold_667 : decode cL_isTold 667 = .ok (.iconst 1, 1) := by decide +kernel
theorem dL_isTold_668 : decode cL_isTold 668 = .ok (.iaload, 1) := by decide +kernel
theorem dL_isTold_669 : decode cL_isTold 669 = .ok (.invokestatic 118, 3) := by decide +kernel
theorem dL_isTold_672 : decode cL_isTold 672 = .ok (.sipush (-7100), 3) := by decide +kernel
theorem dL_isTold_675 : decode cL_isTold 675 = .ok (.if_icmp .ne 7, 3) := by decide +kernel
theorem dL_isTold_678 : decode cL_isTold 678 = .ok (.iconst 1, 1) := by decide +kernel
theorem dL_isTold_679 : decode cL_isTold 679 = .ok (.goto 4, 3) := by decide +kernel
theorem dL_isTold_682 : decode cL_isTold 682 = .ok (.iconst 0, 1) := by decide +kernel
theorem dL_isTold_683 : decode cL_isTold 683 = .ok (.ireturn, 1) := by decide +kernel
theorem dL_law_0 : decode cL_law 0 = .ok (.new 9, 3) := by decide +kernel
theorem dL_law_3 : decode cL_law 3 = .ok (.dup, 1) := by decide +kernel
theorem dL_law_4 : decode cL_law 4 = .ok (.invokespecial 138, 3) := by decide +kernel
theorem dL_law_7 : decode cL_law 7 = .ok (.astore_n 1, 1) := by decide +kernel
theorem dL_law_8 : decode cL_law 8 = .ok (.bipush 44, 2) := by decide +kernel
theorem dL_law_10 : decode cL_law 10 = .ok (.newarray .int, 2) := by decide +kernel
theorem dL_law_12 : decode cL_law 12 = .ok (.astore_n 2, 1) := by decide +kernel
theorem dL_law_13 : decode cL_law 13 = .ok (.bipush 48, 2) := by decide +kernel
theorem dL_law_15 : decode cL_law 15 = .ok (.newarray .int, 2) := by decide +kernel
theorem dL_law_17 : decode cL_law 17 = .ok (.astore_n 3, 1) := by decide +kernel
theorem dL_law_18 : decode cL_law 18 = .ok (.bipush 36, 2) := by decide +kernel
theorem dL_law_20 : decode cL_law 20 = .ok (.newarray .int, 2) := by decide +kernel
theorem dL_law_22 : decode cL_law 22 = .ok (.astore 4, 2) := by decide +kernel
theorem dL_law_24 : decode cL_law 24 = .ok (.bipush 60, 2) := by decide +kernel
theorem dL_law_26 : decode cL_law 26 = .ok (.newarray .int, 2) := by decide +kernel
theorem dL_law_28 : decode cL_law 28 = .ok (.astore 5, 2) := by decide +kernel
theorem dL_law_30 : decode cL_law 30 = .ok (.bipush 60, 2) := by decide +kernel
theorem dL_law_32 : decode cL_law 32 = .ok (.newarray .int, 2) := by decide +kernel
theorem dL_law_34 : decode cL_law 34 = .ok (.astore 6, 2) := by decide +kernel
theorem dL_law_36 : decode cL_law 36 = .ok (.bipush 60, 2) := by decide +kernel
theorem dL_law_38 : decode cL_law 38 = .ok (.newarray .int, 2) := by decide +kernel
theorem dL_law_40 : decode cL_law 40 = .ok (.astore 7, 2) := by decide +kernel
theorem dL_law_42 : decode cL_law 42 = .ok (.bipush 60, 2) := by decide +kernel
theorem dL_law_44 : decode cL_law 44 = .ok (.newarray .int, 2) := by decide +kernel
theorem dL_law_46 : decode cL_law 46 = .ok (.astore 8, 2) := by decide +kernel
theorem dL_law_48 : decode cL_law 48 = .ok (.bipush 60, 2) := by decide +kernel
theorem dL_law_50 : decode cL_law 50 = .ok (.newarray .int, 2) := by decide +kernel
theorem dL_law_52 : decode cL_law 52 = .ok (.astore 9, 2) := by decide +kernel
theorem dL_law_54 : decode cL_law 54 = .ok (.bipush 60, 2) := by decide +kernel
theorem dL_law_56 : decode cL_law 56 = .ok (.newarray .int, 2) := by decide +kernel
theorem dL_law_58 : decode cL_law 58 = .ok (.astore 10, 2) := by decide +kernel
theorem dL_law_60 : decode cL_law 60 = .ok (.bipush 48, 2) := by decide +kernel
theorem dL_law_62 : decode cL_law 62 = .ok (.newarray .int, 2) := by decide +kernel
theorem dL_law_64 : decode cL_law 64 = .ok (.astore 11, 2) := by decide +kernel
theorem dL_law_66 : decode cL_law 66 = .ok (.iconst 0, 1) := by decide +kernel
theorem dL_law_67 : decode cL_law 67 = .ok (.istore 12, 2) := by decide +kernel
theorem dL_law_69 : decode cL_law 69 = .ok (.iload 12, 2) := by decide +kernel
theorem dL_law_71 : decode cL_law 71 = .ok (.bipush 36, 2) := by decide +kernel
theorem dL_law_73 : decode cL_law 73 = .ok (.if_icmp .ge 15, 3) := by decide +kernel
theorem dL_law_76 : decode cL_law 76 = .ok (.aload 4, 2) := by decide +kernel
theorem dL_law_78 : decode cL_law 78 = .ok (.iload 12, 2) := by decide +kernel
theorem dL_law_80 : decode cL_law 80 = .ok (.iconst (-1), 1) := by decide +kernel
theorem dL_law_81 : decode cL_law 81 = .ok (.iastore, 1) := by decide +kernel
theorem dL_law_82 : decode cL_law 82 = .ok (.iinc 12 1, 3) := by decide +kernel
theorem dL_law_85 : decode cL_law 85 = .ok (.goto (-16), 3) := by decide +kernel
theorem dL_law_88 : decode cL_law 88 = .ok (.iconst 0, 1) := by decide +kernel
theorem dL_law_89 : decode cL_law 89 = .ok (.istore 12, 2) := by decide +kernel
theorem dL_law_91 : decode cL_law 91 = .ok (.iload 12, 2) := by decide +kernel
theorem dL_law_93 : decode cL_law 93 = .ok (.bipush 6, 2) := by decide +kernel
theorem dL_law_95 : decode cL_law 95 = .ok (.if_icmp .ge 50, 3) := by decide +kernel
theorem dL_law_98 : decode cL_law 98 = .ok (.aload_n 2, 1) := by decide +kernel
theorem dL_law_99 : decode cL_law 99 = .ok (.bipush 6, 2) := by decide +kernel
theorem dL_law_101 : decode cL_law 101 = .ok (.iload 12, 2) := by decide +kernel
theorem dL_law_103 : decode cL_law 103 = .ok (.iadd, 1) := by decide +kernel
theorem dL_law_104 : decode cL_law 104 = .ok (.iconst (-1), 1) := by decide +kernel
theorem dL_law_105 : decode cL_law 105 = .ok (.iastore, 1) := by decide +kernel
theorem dL_law_106 : decode cL_law 106 = .ok (.aload_n 2, 1) := by decide +kernel
theorem dL_law_107 : decode cL_law 107 = .ok (.bipush 26, 2) := by decide +kernel
theorem dL_law_109 : decode cL_law 109 = .ok (.iconst 3, 1) := by decide +kernel
theorem dL_law_110 : decode cL_law 110 = .ok (.iload 12, 2) := by decide +kernel
theorem dL_law_112 : decode cL_law 112 = .ok (.imul, 1) := by decide +kernel
theorem dL_law_113 : decode cL_law 113 = .ok (.iadd, 1) := by decide +kernel
theorem dL_law_114 : decode cL_law 114 = .ok (.bipush 10, 2) := by decide +kernel
theorem dL_law_116 : decode cL_law 116 = .ok (.iastore, 1) := by decide +kernel
theorem dL_law_117 : decode cL_law 117 = .ok (.aload_n 2, 1) := by decide +kernel
theorem dL_law_118 : decode cL_law 118 = .ok (.bipush 27, 2) := by decide +kernel
theorem dL_law_120 : decode cL_law 120 = .ok (.iconst 3, 1) := by decide +kernel
theorem dL_law_121 : decode cL_law 121 = .ok (.iload 12, 2) := by decide +kernel
theorem dL_law_123 : decode cL_law 123 = .ok (.imul, 1) := by decide +kernel
theorem dL_law_124 : decode cL_law 124 = .ok (.iadd, 1) := by decide +kernel
theorem dL_law_125 : decode cL_law 125 = .ok (.bipush 50, 2) := by decide +kernel
theorem dL_law_127 : decode cL_law 127 = .ok (.iastore, 1) := by decide +kernel
theorem dL_law_128 : decode cL_law 128 = .ok (.aload_n 2, 1) := by decide +kernel
theorem dL_law_129 : decode cL_law 129 = .ok (.bipush 28, 2) := by decide +kernel
theorem dL_law_131 : decode cL_law 131 = .ok (.iconst 3, 1) := by decide +kernel
theorem dL_law_132 : decode cL_law 132 = .ok (.iload 12, 2) := by decide +kernel
theorem dL_law_134 : decode cL_law 134 = .ok (.imul, 1) := by decide +kernel
theorem dL_law_135 : decode cL_law 135 = .ok (.iadd, 1) := by decide +kernel
theorem dL_law_136 : decode cL_law 136 = .ok (.bipush 20, 2) := by decide +kernel
theorem dL_law_138 : decode cL_law 138 = .ok (.iastore, 1) := by decide +kernel
theorem dL_law_139 : decode cL_law 139 = .ok (.iinc 12 1, 3) := by decide +kernel
theorem dL_law_142 : decode cL_law 142 = .ok (.goto (-51), 3) := by decide +kernel
theorem dL_law_145 : decode cL_law 145 = .ok (.iconst 0, 1) := by decide +kernel
theorem dL_law_146 : decode cL_law 146 = .ok (.istore 12, 2) := by decide +kernel
theorem dL_law_148 : decode cL_law 148 = .ok (.iload 12, 2) := by decide +kernel
theorem dL_law_150 : decode cL_law 150 = .ok (.sipush 140, 3) := by decide +kernel
theorem dL_law_153 : decode cL_law 153 = .ok (.if_icmp .ge 3176, 3) := by decide +kernel
theorem dL_law_156 : decode cL_law 156 = .ok (.aload_n 0, 1) := by decide +kernel
theorem dL_law_157 : decode cL_law 157 = .ok (.iconst 2, 1) := by decide +kernel
theorem dL_law_158 : decode cL_law 158 = .ok (.iload 12, 2) := by decide +kernel
theorem dL_law_160 : decode cL_law 160 = .ok (.imul, 1) := by decide +kernel
theorem dL_law_161 : decode cL_law 161 = .ok (.invokestatic 139, 3) := by decide +kernel
theorem dL_law_164 : decode cL_law 164 = .ok (.istore 13, 2) := by decide +kernel
theorem dL_law_166 : decode cL_law 166 = .ok (.aload_n 0, 1) := by decide +kernel
theorem dL_law_167 : decode cL_law 167 = .ok (.iconst 2, 1) := by decide +kernel
theorem dL_law_168 : decode cL_law 168 = .ok (.iload 12, 2) := by decide +kernel
theorem dL_law_170 : decode cL_law 170 = .ok (.imul, 1) := by decide +kernel
theorem dL_law_171 : decode cL_law 171 = .ok (.iconst 1, 1) := by decide +kernel
theorem dL_law_172 : decode cL_law 172 = .ok (.iadd, 1) := by decide +kernel
theorem dL_law_173 : decode cL_law 173 = .ok (.invokestatic 139, 3) := by decide +kernel
theorem dL_law_176 : decode cL_law 176 = .ok (.istore 14, 2) := by decide +kernel
theorem dL_law_178 : decode cL_law 178 = .ok (.iload 13, 2) := by decide +kernel
theorem dL_law_180 : decode cL_law 180 = .ok (.iconst 5, 1) := by decide +kernel
theorem dL_law_181 : decode cL_law 181 = .ok (.ishr, 1) := by decide +kernel
theorem dL_law_182 : decode cL_law 182 = .ok (.iload 13, 2) := by decide +kernel
theorem dL_law_184 : decode cL_law 184 = .ok (.ldc 143, 2) := by decide +kernel
theorem dL_law_186 : decode cL_law 186 = .ok (.iand, 1) := by decide +kernel
theorem dL_law_187 : decode cL_law 187 = .ok (.ifCond .ne 7, 3) := by decide +kernel
theorem dL_law_190 : decode cL_law 190 = .ok (.iconst 3, 1) := by decide +kernel
theorem dL_law_191 : decode cL_law 191 = .ok (.goto 5, 3) := by decide +kernel
theorem dL_law_194 : decode cL_law 194 = .ok (.bipush 6, 2) := by decide +kernel
theorem dL_law_196 : decode cL_law 196 = .ok (.invokestatic 124, 3) := by decide +kernel
theorem dL_law_199 : decode cL_law 199 = .ok (.istore 15, 2) := by decide +kernel
theorem dL_law_201 : decode cL_law 201 = .ok (.aload_n 2, 1) := by decide +kernel
theorem dL_law_202 : decode cL_law 202 = .ok (.iconst 1, 1) := by decide +kernel
theorem dL_law_203 : decode cL_law 203 = .ok (.iaload, 1) := by decide +kernel
theorem dL_law_204 : decode cL_law 204 = .ok (.ifCond .ne 7, 3) := by decide +kernel
theorem dL_law_207 : decode cL_law 207 = .ok (.iconst 0, 1) := by decide +kernel
theorem dL_law_208 : decode cL_law 208 = .ok (.goto 14, 3) := by decide +kernel
theorem dL_law_211 : decode cL_law 211 = .ok (.iload 13, 2) := by decide +kernel
theorem dL_law_213 : decode cL_law 213 = .ok (.bipush 9, 2) := by decide +kernel
theorem dL_law_215 : decode cL_law 215 = .ok (.ishr, 1) := by decide +kernel
theorem dL_law_216 : decode cL_law 216 = .ok (.aload_n 2, 1) := by decide +kernel
theorem dL_law_217 : decode cL_law 217 = .ok (.iconst 1, 1) := by decide +kernel
theorem dL_law_218 : decode cL_law 218 = .ok (.iaload, 1) := by decide +kernel
theorem dL_law_219 : decode cL_law 219 = .ok (.invokestatic 124, 3) := by decide +kernel
theorem dL_law_222 : decode cL_law 222 = .ok (.istore 16, 2) := by decide +kernel
theorem dL_law_224 : decode cL_law 224 = .ok (.aload_n 2, 1) := by decide +kernel
theorem dL_law_225 : decode cL_law 225 = .ok (.iconst 1, 1) := by decide +kernel
theorem dL_law_226 : decode cL_law 226 = .ok (.iaload, 1) := by decide +kernel
theorem dL_law_227 : decode cL_law 227 = .ok (.ifCond .ne 7, 3) := by decide +kernel
theorem dL_law_230 : decode cL_law 230 = .ok (.iconst 0, 1) := by decide +kernel
theorem dL_law_231 : decode cL_law 231 = .ok (.goto 14, 3) := by decide +kernel
theorem dL_law_234 : decode cL_law 234 = .ok (.iload 13, 2) := by decide +kernel
theorem dL_law_236 : decode cL_law 236 = .ok (.bipush 12, 2) := by decide +kernel
theorem dL_law_238 : decode cL_law 238 = .ok (.ishr, 1) := by decide +kernel
theorem dL_law_239 : decode cL_law 239 = .ok (.aload_n 2, 1) := by decide +kernel
theorem dL_law_240 : decode cL_law 240 = .ok (.iconst 1, 1) := by decide +kernel
theorem dL_law_241 : decode cL_law 241 = .ok (.iaload, 1) := by decide +kernel
theorem dL_law_242 : decode cL_law 242 = .ok (.invokestatic 124, 3) := by decide +kernel
theorem dL_law_245 : decode cL_law 245 = .ok (.istore 17, 2) := by decide +kernel
theorem dL_law_247 : decode cL_law 247 = .ok (.iconst 1, 1) := by decide +kernel
theorem dL_law_248 : decode cL_law 248 = .ok (.istore 18, 2) := by decide +kernel
theorem dL_law_250 : decode cL_law 250 = .ok (.iload 12, 2) := by decide +kernel
theorem dL_law_252 : decode cL_law 252 = .ok (.iconst 3, 1) := by decide +kernel
theorem dL_law_253 : decode cL_law 253 = .ok (.if_icmp .ge 7, 3) := by decide +kernel
theorem dL_law_256 : decode cL_law 256 = .ok (.iconst 0, 1) := by decide +kernel
theorem dL_law_257 : decode cL_law 257 = .ok (.goto 33, 3) := by decide +kernel
theorem dL_law_260 : decode cL_law 260 = .ok (.iload 12, 2) := by decide +kernel
theorem dL_law_262 : decode cL_law 262 = .ok (.bipush 6, 2) := by decide +kernel
theorem dL_law_264 : decode cL_law 264 = .ok (.if_icmp .ge 8, 3) := by decide +kernel
theorem dL_law_267 : decode cL_law 267 = .ok (.bipush 7, 2) := by decide +kernel
theorem dL_law_269 : decode cL_law 269 = .ok (.goto 21, 3) := by decide +kernel
theorem dL_law_272 : decode cL_law 272 = .ok (.iload 12, 2) := by decide +kernel
theorem dL_law_274 : decode cL_law 274 = .ok (.bipush 10, 2) := by decide +kernel
theorem dL_law_276 : decode cL_law 276 = .ok (.if_icmp .ge 7, 3) := by decide +kernel
theorem dL_law_279 : decode cL_law 279 = .ok (.iconst 2, 1) := by decide +kernel
theorem dL_law_280 : decode cL_law 280 = .ok (.goto 10, 3) := by decide +kernel
theorem dL_law_283 : decode cL_law 283 = .ok (.iload 13, 2) := by decide +kernel
theorem dL_law_285 : decode cL_law 285 = .ok (.bipush 26, 2) := by decide +kernel
theorem dL_law_287 : decode cL_law 287 = .ok (.invokestatic 124, 3) := by decide +kernel
theorem dL_law_290 : decode cL_law 290 = .ok (.tableswitch 2789 0 23 #[110, 264, 426, 426, 718, 810, 899, 944, 944, 1082, 1205, 1260, 1353, 1353, 1353, 1353, 1607, 1713, 1713, 1713, 1713, 2314, 2314, 2487], 110) := by decide +kernel
theorem dL_law_400 : decode cL_law 400 = .ok (.iload 12, 2) := by decide +kernel
theorem dL_law_402 : decode cL_law 402 = .ok (.iconst 3, 1) := by decide +kernel
theorem dL_law_403 : decode cL_law 403 = .ok (.if_icmp .ge 8, 3) := by decide +kernel
theorem dL_law_406 : decode cL_law 406 = .ok (.iload 12, 2) := by decide +kernel
theorem dL_law_408 : decode cL_law 408 = .ok (.goto 9, 3) := by decide +kernel
theorem dL_law_411 : decode cL_law 411 = .ok (.iload 14, 2) := by decide +kernel
theorem dL_law_413 : decode cL_law 413 = .ok (.iconst 4, 1) := by decide +kernel
theorem dL_law_414 : decode cL_law 414 = .ok (.invokestatic 124, 3) := by decide +kernel
theorem dL_law_417 : decode cL_law 417 = .ok (.istore 19, 2) := by decide +kernel
theorem dL_law_419 : decode cL_law 419 = .ok (.iload 12, 2) := by decide +kernel
theorem dL_law_421 : decode cL_law 421 = .ok (.iconst 3, 1) := by decide +kernel
theorem dL_law_422 : decode cL_law 422 = .ok (.if_icmp .ge 11, 3) := by decide +kernel
theorem dL_law_425 : decode cL_law 425 = .ok (.bipush 7, 2) := by decide +kernel
theorem dL_law_427 : decode cL_law 427 = .ok (.iload 12, 2) := by decide +kernel
theorem dL_law_429 : decode cL_law 429 = .ok (.ishl, 1) := by decide +kernel
theorem dL_law_430 : decode cL_law 430 = .ok (.goto 14, 3) := by decide +kernel
theorem dL_law_433 : decode cL_law 433 = .ok (.iload 14, 2) := by decide +kernel
theorem dL_law_435 : decode cL_law 435 = .ok (.iconst 3, 1) := by decide +kernel
theorem dL_law_436 : decode cL_law 436 = .ok (.ishr, 1) := by decide +kernel
theorem dL_law_437 : decode cL_law 437 = .ok (.bipush 64, 2) := by decide +kernel
theorem dL_law_439 : decode cL_law 439 = .ok (.invokestatic 124, 3) := by decide +kernel
theorem dL_law_442 : decode cL_law 442 = .ok (.iconst 1, 1) := by decide +kernel
theorem dL_law_443 : decode cL_law 443 = .ok (.ior, 1) := by decide +kernel
theorem dL_law_444 : decode cL_law 444 = .ok (.istore 20, 2) := by decide +kernel
theorem dL_law_446 : decode cL_law 446 = .ok (.aload_n 1, 1) := by decide +kernel
theorem dL_law_447 : decode cL_law 447 = .ok (.iload 19, 2) := by decide +kernel
theorem dL_law_449 : decode cL_law 449 = .ok (.iload 20, 2) := by decide +kernel
theorem dL_law_451 : decode cL_law 451 = .ok (.invokestatic 144, 3) := by decide +kernel
theorem dL_law_454 : decode cL_law 454 = .ok (.aload_n 2, 1) := by decide +kernel
theorem dL_law_455 : decode cL_law 455 = .ok (.bipush 18, 2) := by decide +kernel
theorem dL_law_457 : decode cL_law 457 = .ok (.iload 19, 2) := by decide +kernel
theorem dL_law_459 : decode cL_law 459 = .ok (.iadd, 1) := by decide +kernel
theorem dL_law_460 : decode cL_law 460 = .ok (.iaload, 1) := by decide +kernel
theorem dL_law_461 : decode cL_law 461 = .ok (.if_icmp .ne 7, 3) := by decide +kernel
theorem dL_law_464 : decode cL_law 464 = .ok (.iconst 1, 1) := by decide +kernel
theorem dL_law_465 : decode cL_law 465 = .ok (.goto 4, 3) := by decide +kernel
theorem dL_law_468 : decode cL_law 468 = .ok (.iconst 0, 1) := by decide +kernel
theorem dL_law_469 : decode cL_law 469 = .ok (.istore 18, 2) := by decide +kernel
theorem dL_law_471 : decode cL_law 471 = .ok (.aload_n 2, 1) := by decide +kernel
theorem dL_law_472 : decode cL_law 472 = .ok (.bipush 18, 2) := by decide +kernel
theorem dL_law_474 : decode cL_law 474 = .ok (.iload 19, 2) := by decide +kernel
theorem dL_law_476 : decode cL_law 476 = .ok (.iadd, 1) := by decide +kernel
theorem dL_law_477 : decode cL_law 477 = .ok (.iload 20, 2) := by decide +kernel
theorem dL_law_479 : decode cL_law 479 = .ok (.iastore, 1) := by decide +kernel
theorem dL_law_480 : decode cL_law 480 = .ok (.iconst 0, 1) := by decide +kernel
theorem dL_law_481 : decode cL_law 481 = .ok (.istore 21, 2) := by decide +kernel
theorem dL_law_483 : decode cL_law 483 = .ok (.iload 21, 2) := by decide +kernel
theorem dL_law_485 : decode cL_law 485 = .ok (.aload_n 2, 1) := by decide +kernel
theorem dL_law_486 : decode cL_law 486 = .ok (.iconst 1, 1) := by decide +kernel
theorem dL_law_487 : decode cL_law 487 = .ok (.iaload, 1) := by decide +kernel
theorem dL_law_488 : decode cL_law 488 = .ok (.if_icmp .ge 63, 3) := by decide +kernel
theorem dL_law_491 : decode cL_law 491 = .ok (.aload_n 3, 1) := by decide +kernel
theorem dL_law_492 : decode cL_law 492 = .ok (.bipush 8, 2) := by decide +kernel
theorem dL_law_494 : decode cL_law 494 = .ok (.iload 21, 2) := by decide +kernel
theorem dL_law_496 : decode cL_law 496 = .ok (.imul, 1) := by decide +kernel
theorem dL_law_497 : decode cL_law 497 = .ok (.iconst 1, 1) := by decide +kernel
theorem dL_law_498 : decode cL_law 498 = .ok (.iadd, 1) := by decide +kernel
theorem dL_law_499 : decode cL_law 499 = .ok (.iaload, 1) := by decide +kernel
theorem dL_law_500 : decode cL_law 500 = .ok (.iload 19, 2) := by decide +kernel
theorem dL_law_502 : decode cL_law 502 = .ok (.if_icmp .ne 43, 3) := by decide +kernel
theorem dL_law_505 : decode cL_law 505 = .ok (.aload_n 3, 1) := by decide +kernel
theorem dL_law_506 : decode cL_law 506 = .ok (.bipush 8, 2) := by decide +kernel
theorem dL_law_508 : decode cL_law 508 = .ok (.iload 21, 2) := by decide +kernel
theorem dL_law_510 : decode cL_law 510 = .ok (.imul, 1) := by decide +kernel
theorem dL_law_511 : decode cL_law 511 = .ok (.iconst 3, 1) := by decide +kernel
theorem dL_law_512 : decode cL_law 512 = .ok (.iadd, 1) := by decide +kernel
theorem dL_law_513 : decode cL_law 513 = .ok (.iaload, 1) := by decide +kernel
theorem dL_law_514 : decode cL_law 514 = .ok (.iconst (-1), 1) := by decide +kernel
theorem dL_law_515 : decode cL_law 515 = .ok (.if_icmp .eq 30, 3) := by decide +kernel
theorem dL_law_518 : decode cL_law 518 = .ok (.iload 20, 2) := by decide +kernel
theorem dL_law_520 : decode cL_law 520 = .ok (.aload_n 3, 1) := by decide +kernel
theorem dL_law_521 : decode cL_law 521 = .ok (.bipush 8, 2) := by decide +kernel
theorem dL_law_523 : decode cL_law 523 = .ok (.iload 21, 2) := by decide +kernel
theorem dL_law_525 : decode cL_law 525 = .ok (.imul, 1) := by decide +kernel
theorem dL_law_526 : decode cL_law 526 = .ok (.iconst 3, 1) := by decide +kernel
theorem dL_law_527 : decode cL_law 527 = .ok (.iadd, 1) := by decide +kernel
theorem dL_law_528 : decode cL_law 528 = .ok (.iaload, 1) := by decide +kernel
theorem dL_law_529 : decode cL_law 529 = .ok (.ishr, 1) := by decide +kernel
theorem dL_law_530 : decode cL_law 530 = .ok (.iconst 1, 1) := by decide +kernel
theorem dL_law_531 : decode cL_law 531 = .ok (.iand, 1) := by decide +kernel
theorem dL_law_532 : decode cL_law 532 = .ok (.ifCond .ne 13, 3) := by decide +kernel
theorem dL_law_535 : decode cL_law 535 = .ok (.aload_n 3, 1) := by decide +kernel
theorem dL_law_536 : decode cL_law 536 = .ok (.bipush 8, 2) := by decide +kernel
theorem dL_law_538 : decode cL_law 538 = .ok (.iload 21, 2) := by decide +kernel
theorem dL_law_540 : decode cL_law 540 = .ok (.imul, 1) := by decide +kernel
theorem dL_law_541 : decode cL_law 541 = .ok (.iconst 3, 1) := by decide +kernel
theorem dL_law_542 : decode cL_law 542 = .ok (.iadd, 1) := by decide +kernel
theorem dL_law_543 : decode cL_law 543 = .ok (.iconst (-1), 1) := by decide +kernel
theorem dL_law_544 : decode cL_law 544 = .ok (.iastore, 1) := by decide +kernel
theorem dL_law_545 : decode cL_law 545 = .ok (.iinc 21 1, 3) := by decide +kernel
theorem dL_law_548 : decode cL_law 548 = .ok (.goto (-65), 3) := by decide +kernel
theorem dL_law_551 : decode cL_law 551 = .ok (.goto 2737, 3) := by decide +kernel
theorem dL_law_554 : decode cL_law 554 = .ok (.iload 14, 2) := by decide +kernel
theorem dL_law_556 : decode cL_law 556 = .ok (.bipush 6, 2) := by decide +kernel
theorem dL_law_558 : decode cL_law 558 = .ok (.iand, 1) := by decide +kernel
theorem dL_law_559 : decode cL_law 559 = .ok (.ifCond .ne 7, 3) := by decide +kernel
theorem dL_law_562 : decode cL_law 562 = .ok (.iconst 1, 1) := by decide +kernel
theorem dL_law_563 : decode cL_law 563 = .ok (.goto 4, 3) := by decide +kernel
theorem dL_law_566 : decode cL_law 566 = .ok (.iconst 0, 1) := by decide +kernel
theorem dL_law_567 : decode cL_law 567 = .ok (.istore 21, 2) := by decide +kernel
theorem dL_law_569 : decode cL_law 569 = .ok (.aload_n 1, 1) := by decide +kernel
theorem dL_law_570 : decode cL_law 570 = .ok (.iload 15, 2) := by decide +kernel
theorem dL_law_572 : decode cL_law 572 = .ok (.iload 21, 2) := by decide +kernel
theorem dL_law_574 : decode cL_law 574 = .ok (.invokestatic 146, 3) := by decide +kernel
theorem dL_law_577 : decode cL_law 577 = .ok (.aload_n 2, 1) := by decide +kernel
theorem dL_law_578 : decode cL_law 578 = .ok (.iconst 5, 1) := by decide +kernel
theorem dL_law_579 : decode cL_law 579 = .ok (.iaload, 1) := by decide +kernel
theorem dL_law_580 : decode cL_law 580 = .ok (.iload 15, 2) := by decide +kernel
theorem dL_law_582 : decode cL_law 582 = .ok (.ishr, 1) := by decide +kernel
theorem dL_law_583 : decode cL_law 583 = .ok (.iconst 1, 1) := by decide +kernel
theorem dL_law_584 : decode cL_law 584 = .ok (.iand, 1) := by decide +kernel
theorem dL_law_585 : decode cL_law 585 = .ok (.if_icmp .ne 7, 3) := by decide +kernel
theorem dL_law_588 : decode cL_law 588 = .ok (.iconst 1, 1) := by decide +kernel
theorem dL_law_589 : decode cL_law 589 = .ok (.goto 4, 3) := by decide +kernel
theorem dL_law_592 : decode cL_law 592 = .ok (.iconst 0, 1) := by decide +kernel
theorem dL_law_593 : decode cL_law 593 = .ok (.istore 18, 2) := by decide +kernel
theorem dL_law_595 : decode cL_law 595 = .ok (.aload_n 2, 1) := by decide +kernel
theorem dL_law_596 : decode cL_law 596 = .ok (.iconst 5, 1) := by decide +kernel
theorem dL_law_597 : decode cL_law 597 = .ok (.iload 21, 2) := by decide +kernel
theorem dL_law_599 : decode cL_law 599 = .ok (.ifCond .eq 14, 3) := by decide +kernel
theorem dL_law_602 : decode cL_law 602 = .ok (.aload_n 2, 1) := by decide +kernel
theorem dL_law_603 : decode cL_law 603 = .ok (.iconst 5, 1) := by decide +kernel
theorem dL_law_604 : decode cL_law 604 = .ok (.iaload, 1) := by decide +kernel
theorem dL_law_605 : decode cL_law 605 = .ok (.iconst 1, 1) := by decide +kernel
theorem dL_law_606 : decode cL_law 606 = .ok (.iload 15, 2) := by decide +kernel
theorem dL_law_608 : decode cL_law 608 = .ok (.ishl, 1) := by decide +kernel
theorem dL_law_609 : decode cL_law 609 = .ok (.ior, 1) := by decide +kernel
theorem dL_law_610 : decode cL_law 610 = .ok (.goto 13, 3) := by decide +kernel
theorem dL_law_613 : decode cL_law 613 = .ok (.aload_n 2, 1) := by decide +kernel
theorem dL_law_614 : decode cL_law 614 = .ok (.iconst 5, 1) := by decide +kernel
theorem dL_law_615 : decode cL_law 615 = .ok (.iaload, 1) := by decide +kernel
theorem dL_law_616 : decode cL_law 616 = .ok (.iconst 1, 1) := by decide +kernel
theorem dL_law_617 : decode cL_law 617 = .ok (.iload 15, 2) := by decide +kernel
theorem dL_law_619 : decode cL_law 619 = .ok (.ishl, 1) := by decide +kernel
theorem dL_law_620 : decode cL_law 620 = .ok (.iconst (-1), 1) := by decide +kernel
theorem dL_law_621 : decode cL_law 621 = .ok (.ixor, 1) := by decide +kernel
theorem dL_law_622 : decode cL_law 622 = .ok (.iand, 1) := by decide +kernel
theorem dL_law_623 : decode cL_law 623 = .ok (.iastore, 1) := by decide +kernel
theorem dL_law_624 : decode cL_law 624 = .ok (.iload 21, 2) := by decide +kernel
theorem dL_law_626 : decode cL_law 626 = .ok (.ifCond .ne 6, 3) := by decide +kernel
theorem dL_law_629 : decode cL_law 629 = .ok (.goto 2659, 3) := by decide +kernel
theorem dL_law_632 : decode cL_law 632 = .ok (.iconst 0, 1) := by decide +kernel
theorem dL_law_633 : decode cL_law 633 = .ok (.istore 22, 2) := by decide +kernel
theorem dL_law_635 : decode cL_law 635 = .ok (.iload 22, 2) := by decide +kernel
theorem dL_law_637 : decode cL_law 637 = .ok (.bipush 6, 2) := by decide +kernel
theorem dL_law_639 : decode cL_law 639 = .ok (.if_icmp .ge 21, 3) := by decide +kernel
theorem dL_law_642 : decode cL_law 642 = .ok (.aload 4, 2) := by decide +kernel
theorem dL_law_644 : decode cL_law 644 = .ok (.bipush 6, 2) := by decide +kernel
theorem dL_law_646 : decode cL_law 646 = .ok (.iload 15, 2) := by decide +kernel
theorem dL_law_648 : decode cL_law 648 = .ok (.imul, 1) := by decide +kernel
theorem dL_law_649 : decode cL_law 649 = .ok (.iload 22, 2) := by decide +kernel
theorem dL_law_651 : decode cL_law 651 = .ok (.iadd, 1) := by decide +kernel
theorem dL_law_652 : decode cL_law 652 = .ok (.iconst (-1), 1) := by decide +kernel
theorem dL_law_653 : decode cL_law 653 = .ok (.iastore, 1) := by decide +kernel
theorem dL_law_654 : decode cL_law 654 = .ok (.iinc 22 1, 3) := by decide +kernel
theorem dL_law_657 : decode cL_law 657 = .ok (.goto (-22), 3) := by decide +kernel
theorem dL_law_660 : decode cL_law 660 = .ok (.iconst 0, 1) := by decide +kernel
theorem dL_law_661 : decode cL_law 661 = .ok (.istore 22, 2) := by decide +kernel
theorem dL_law_663 : decode cL_law 663 = .ok (.iload 22, 2) := by decide +kernel
theorem dL_law_665 : decode cL_law 665 = .ok (.aload_n 2, 1) := by decide +kernel
theorem dL_law_666 : decode cL_law 666 = .ok (.iconst 1, 1) := by decide +kernel
theorem dL_law_667 : decode cL_law 667 = .ok (.iaload, 1) := by decide +kernel
theorem dL_law_668 : decode cL_law 668 = .ok (.if_icmp .ge 45, 3) := by decide +kernel
theorem dL_law_671 : decode cL_law 671 = .ok (.aload_n 3, 1) := by decide +kernel
theorem dL_law_672 : decode cL_law 672 = .ok (.bipush 8, 2) := by decide +kernel
theorem dL_law_674 : decode cL_law 674 = .ok (.iload 22, 2) := by decide +kernel
theorem dL_law_676 : decode cL_law 676 = .ok (.imul, 1) := by decide +kernel
theorem dL_law_677 : decode cL_law 677 = .ok (.iconst 3, 1) := by decide +kernel
theorem dL_law_678 : decode cL_law 678 = .ok (.iadd, 1) := by decide +kernel
theorem dL_law_679 : decode cL_law 679 = .ok (.aload_n 3, 1) := by decide +kernel
theorem dL_law_680 : decode cL_law 680 = .ok (.bipush 8, 2) := by decide +kernel
theorem dL_law_682 : decode cL_law 682 = .ok (.iload 22, 2) := by decide +kernel
theorem dL_law_684 : decode cL_law 684 = .ok (.imul, 1) := by decide +kernel
theorem dL_law_685 : decode cL_law 685 = .ok (.iconst 3, 1) := by decide +kernel
theorem dL_law_686 : decode cL_law 686 = .ok (.iadd, 1) := by decide +kernel
theorem dL_law_687 : decode cL_law 687 = .ok (.iaload, 1) := by decide +kernel
theorem dL_law_688 : decode cL_law 688 = .ok (.iload 15, 2) := by decide +kernel
theorem dL_law_690 : decode cL_law 690 = .ok (.if_icmp .ne 7, 3) := by decide +kernel
theorem dL_law_693 : decode cL_law 693 = .ok (.iconst (-1), 1) := by decide +kernel
theorem dL_law_694 : decode cL_law 694 = .ok (.goto 12, 3) := by decide +kernel
theorem dL_law_697 : decode cL_law 697 = .ok (.aload_n 3, 1) := by decide +kernel
theorem dL_law_698 : decode cL_law 698 = .ok (.bipush 8, 2) := by decide +kernel
theorem dL_law_700 : decode cL_law 700 = .ok (.iload 22, 2) := by decide +kernel
theorem dL_law_702 : decode cL_law 702 = .ok (.imul, 1) := by decide +kernel
theorem dL_law_703 : decode cL_law 703 = .ok (.iconst 3, 1) := by decide +kernel
theorem dL_law_704 : decode cL_law 704 = .ok (.iadd, 1) := by decide +kernel
theorem dL_law_705 : decode cL_law 705 = .ok (.iaload, 1) := by decide +kernel
theorem dL_law_706 : decode cL_law 706 = .ok (.iastore, 1) := by decide +kernel
theorem dL_law_707 : decode cL_law 707 = .ok (.iinc 22 1, 3) := by decide +kernel
theorem dL_law_710 : decode cL_law 710 = .ok (.goto (-47), 3) := by decide +kernel
theorem dL_law_713 : decode cL_law 713 = .ok (.goto 2575, 3) := by decide +kernel
theorem dL_law_716 : decode cL_law 716 = .ok (.aload_n 2, 1) := by decide +kernel
theorem dL_law_717 : decode cL_law 717 = .ok (.iconst 2, 1) := by decide +kernel
theorem dL_law_718 : decode cL_law 718 = .ok (.iaload, 1) := by decide +kernel
theorem dL_law_719 : decode cL_law 719 = .ok (.bipush 10, 2) := by decide +kernel
theorem dL_law_721 : decode cL_law 721 = .ok (.if_icmp .ne 6, 3) := by decide +kernel
theorem dL_law_724 : decode cL_law 724 = .ok (.goto 2564, 3) := by decide +kernel
theorem dL_law_727 : decode cL_law 727 = .ok (.iload 14, 2) := by decide +kernel
theorem dL_law_729 : decode cL_law 729 = .ok (.iconst 3, 1) := by decide +kernel
theorem dL_law_730 : decode cL_law 730 = .ok (.invokestatic 124, 3) := by decide +kernel
theorem dL_law_733 : decode cL_law 733 = .ok (.istore 22, 2) := by decide +kernel
theorem dL_law_735 : decode cL_law 735 = .ok (.bipush 6, 2) := by decide +kernel
theorem dL_law_737 : decode cL_law 737 = .ok (.aload_n 2, 1) := by decide +kernel
theorem dL_law_738 : decode cL_law 738 = .ok (.iconst 2, 1) := by decide +kernel
theorem dL_law_739 : decode cL_law 739 = .ok (.iaload, 1) := by decide +kernel
theorem dL_law_740 : decode cL_law 740 = .ok (.imul, 1) := by decide +kernel
theorem dL_law_741 : decode cL_law 741 = .ok (.istore 23, 2) := by decide +kernel
theorem dL_law_743 : decode cL_law 743 = .ok (.iload 14, 2) := by decide +kernel
theorem dL_law_745 : decode cL_law 745 = .ok (.ldc 149, 2) := by decide +kernel
theorem dL_law_747 : decode cL_law 747 = .ok (.iand, 1) := by decide +kernel
theorem dL_law_748 : decode cL_law 748 = .ok (.ifCond .ne 7, 3) := by decide +kernel
theorem dL_law_751 : decode cL_law 751 = .ok (.iconst 0, 1) := by decide +kernel
theorem dL_law_752 : decode cL_law 752 = .ok (.goto 19, 3) := by decide +kernel
theorem dL_law_755 : decode cL_law 755 = .ok (.aload_n 2, 1) := by decide +kernel
theorem dL_law_756 : decode cL_law 756 = .ok (.iconst 0, 1) := by decide +kernel
theorem dL_law_757 : decode cL_law 757 = .ok (.iaload, 1) := by decide +kernel
theorem dL_law_758 : decode cL_law 758 = .ok (.iconst 2, 1) := by decide +kernel
theorem dL_law_759 : decode cL_law 759 = .ok (.idiv, 1) := by decide +kernel
theorem dL_law_760 : decode cL_law 760 = .ok (.iload 14, 2) := by decide +kernel
theorem dL_law_762 : decode cL_law 762 = .ok (.iconst 4, 1) := by decide +kernel
theorem dL_law_763 : decode cL_law 763 = .ok (.ishr, 1) := by decide +kernel
theorem dL_law_764 : decode cL_law 764 = .ok (.sipush 500, 3) := by decide +kernel
theorem dL_law_767 : decode cL_law 767 = .ok (.invokestatic 124, 3) := by decide +kernel
theorem dL_law_770 : decode cL_law 770 = .ok (.iadd, 1) := by decide +kernel
theorem dL_law_771 : decode cL_law 771 = .ok (.istore 24, 2) := by decide +kernel
theorem dL_law_773 : decode cL_law 773 = .ok (.iload 24, 2) := by decide +kernel
theorem dL_law_775 : decode cL_law 775 = .ok (.iconst 1, 1) := by decide +kernel
theorem dL_law_776 : decode cL_law 776 = .ok (.iadd, 1) := by decide +kernel
theorem dL_law_777 : decode cL_law 777 = .ok (.iload 14, 2) := by decide +kernel
theorem dL_law_779 : decode cL_law 779 = .ok (.bipush 7, 2) := by decide +kernel
theorem dL_law_781 : decode cL_law 781 = .ok (.ishr, 1) := by decide +kernel
theorem dL_law_782 : decode cL_law 782 = .ok (.iload 14, 2) := by decide +kernel
theorem dL_law_784 : decode cL_law 784 = .ok (.ldc 150, 2) := by decide +kernel
theorem dL_law_786 : decode cL_law 786 = .ok (.iand, 1) := by decide +kernel
theorem dL_law_787 : decode cL_law 787 = .ok (.ifCond .ne 8, 3) := by decide +kernel
theorem dL_law_790 : decode cL_law 790 = .ok (.ldc 151, 2) := by decide +kernel
theorem dL_law_792 : decode cL_law 792 = .ok (.goto 6, 3) := by decide +kernel
theorem dL_law_795 : decode cL_law 795 = .ok (.sipush 3000, 3) := by decide +kernel
theorem dL_law_798 : decode cL_law 798 = .ok (.invokestatic 124, 3) := by decide +kernel
theorem dL_law_801 : decode cL_law 801 = .ok (.iadd, 1) := by decide +kernel
theorem dL_law_802 : decode cL_law 802 = .ok (.istore 25, 2) := by decide +kernel
theorem dL_law_804 : decode cL_law 804 = .ok (.iload 25, 2) := by decide +kernel
theorem dL_law_806 : decode cL_law 806 = .ok (.ldc 152, 2) := by decide +kernel
theorem dL_law_808 : decode cL_law 808 = .ok (.if_icmp .le 8, 3) := by decide +kernel
theorem dL_law_811 : decode cL_law 811 = .ok (.ldc 152, 2) := by decide +kernel
theorem dL_law_813 : decode cL_law 813 = .ok (.goto 5, 3) := by decide +kernel
theorem dL_law_816 : decode cL_law 816 = .ok (.iload 25, 2) := by decide +kernel
theorem dL_law_818 : decode cL_law 818 = .ok (.istore 25, 2) := by decide +kernel
theorem dL_law_820 : decode cL_law 820 = .ok (.iload 14, 2) := by decide +kernel
theorem dL_law_822 : decode cL_law 822 = .ok (.bipush 9, 2) := by decide +kernel
theorem dL_law_824 : decode cL_law 824 = .ok (.ishr, 1) := by decide +kernel
theorem dL_law_825 : decode cL_law 825 = .ok (.bipush 100, 2) := by decide +kernel
theorem dL_law_827 : decode cL_law 827 = .ok (.invokestatic 124, 3) := by decide +kernel
theorem dL_law_830 : decode cL_law 830 = .ok (.istore 26, 2) := by decide +kernel
theorem dL_law_832 : decode cL_law 832 = .ok (.iload 14, 2) := by decide +kernel
theorem dL_law_834 : decode cL_law 834 = .ok (.bipush 13, 2) := by decide +kernel
theorem dL_law_836 : decode cL_law 836 = .ok (.ishr, 1) := by decide +kernel
theorem dL_law_837 : decode cL_law 837 = .ok (.iconst 3, 1) := by decide +kernel
theorem dL_law_838 : decode cL_law 838 = .ok (.invokestatic 124, 3) := by decide +kernel
theorem dL_law_841 : decode cL_law 841 = .ok (.ifCond .ne 7, 3) := by decide +kernel
theorem dL_law_844 : decode cL_law 844 = .ok (.iconst 0, 1) := by decide +kernel
theorem dL_law_845 : decode cL_law 845 = .ok (.goto 13, 3) := by decide +kernel
theorem dL_law_848 : decode cL_law 848 = .ok (.iload 14, 2) := by decide +kernel
theorem dL_law_850 : decode cL_law 850 = .ok (.bipush 14, 2) := by decide +kernel
theorem dL_law_852 : decode cL_law 852 = .ok (.ishr, 1) := by decide +kernel
theorem dL_law_853 : decode cL_law 853 = .ok (.bipush 60, 2) := by decide +kernel
theorem dL_law_855 : decode cL_law 855 = .ok (.invokestatic 124, 3) := by decide +kernel
theorem dL_law_858 : decode cL_law 858 = .ok (.istore 27, 2) := by decide +kernel
theorem dL_law_860 : decode cL_law 860 = .ok (.iload 14, 2) := by decide +kernel
theorem dL_law_862 : decode cL_law 862 = .ok (.bipush 16, 2) := by decide +kernel
theorem dL_law_864 : decode cL_law 864 = .ok (.ishr, 1) := by decide +kernel
theorem dL_law_865 : decode cL_law 865 = .ok (.iload 26, 2) := by decide +kernel
theorem dL_law_867 : decode cL_law 867 = .ok (.iconst 1, 1) := by decide +kernel
theorem dL_law_868 : decode cL_law 868 = .ok (.iadd, 1) := by decide +kernel
theorem dL_law_869 : decode cL_law 869 = .ok (.invokestatic 124, 3) := by decide +kernel
theorem dL_law_872 : decode cL_law 872 = .ok (.istore 28, 2) := by decide +kernel
theorem dL_law_874 : decode cL_law 874 = .ok (.iload 22, 2) := by decide +kernel
theorem dL_law_876 : decode cL_law 876 = .ok (.iload 15, 2) := by decide +kernel
theorem dL_law_878 : decode cL_law 878 = .ok (.if_icmp .eq 7, 3) := by decide +kernel
theorem dL_law_881 : decode cL_law 881 = .ok (.iconst 1, 1) := by decide +kernel
theorem dL_law_882 : decode cL_law 882 = .ok (.goto 4, 3) := by decide +kernel
theorem dL_law_885 : decode cL_law 885 = .ok (.iconst 0, 1) := by decide +kernel
theorem dL_law_886 : decode cL_law 886 = .ok (.istore 29, 2) := by decide +kernel
theorem dL_law_888 : decode cL_law 888 = .ok (.aload_n 1, 1) := by decide +kernel
theorem dL_law_889 : decode cL_law 889 = .ok (.iload 22, 2) := by decide +kernel
theorem dL_law_891 : decode cL_law 891 = .ok (.iload 15, 2) := by decide +kernel
theorem dL_law_893 : decode cL_law 893 = .ok (.iload 24, 2) := by decide +kernel
theorem dL_law_895 : decode cL_law 895 = .ok (.iload 25, 2) := by decide +kernel
theorem dL_law_897 : decode cL_law 897 = .ok (.iload 26, 2) := by decide +kernel
theorem dL_law_899 : decode cL_law 899 = .ok (.iload 27, 2) := by decide +kernel
theorem dL_law_901 : decode cL_law 901 = .ok (.iload 28, 2) := by decide +kernel
theorem dL_law_903 : decode cL_law 903 = .ok (.invokestatic 153, 3) := by decide +kernel
theorem dL_law_906 : decode cL_law 906 = .ok (.iload 29, 2) := by decide +kernel
theorem dL_law_908 : decode cL_law 908 = .ok (.ifCond .eq 11, 3) := by decide +kernel
theorem dL_law_911 : decode cL_law 911 = .ok (.aload_n 2, 1) := by decide +kernel
theorem dL_law_912 : decode cL_law 912 = .ok (.iconst 2, 1) := by decide +kernel
theorem dL_law_913 : decode cL_law 913 = .ok (.iaload, 1) := by decide +kernel
theorem dL_law_914 : decode cL_law 914 = .ok (.iconst 1, 1) := by decide +kernel
theorem dL_law_915 : decode cL_law 915 = .ok (.iadd, 1) := by decide +kernel
theorem dL_law_916 : decode cL_law 916 = .ok (.goto 6, 3) := by decide +kernel
theorem dL_law_919 : decode cL_law 919 = .ok (.sipush (-7200), 3) := by decide +kernel
theorem dL_law_922 : decode cL_law 922 = .ok (.if_icmp .ne 7, 3) := by decide +kernel
theorem dL_law_925 : decode cL_law 925 = .ok (.iconst 1, 1) := by decide +kernel
theorem dL_law_926 : decode cL_law 926 = .ok (.goto 4, 3) := by decide +kernel
theorem dL_law_929 : decode cL_law 929 = .ok (.iconst 0, 1) := by decide +kernel
theorem dL_law_930 : decode cL_law 930 = .ok (.istore 18, 2) := by decide +kernel
theorem dL_law_932 : decode cL_law 932 = .ok (.iload 29, 2) := by decide +kernel
theorem dL_law_934 : decode cL_law 934 = .ok (.ifCond .ne 6, 3) := by decide +kernel
theorem dL_law_937 : decode cL_law 937 = .ok (.goto 2351, 3) := by decide +kernel
theorem dL_law_940 : decode cL_law 940 = .ok (.aload 5, 2) := by decide +kernel
theorem dL_law_942 : decode cL_law 942 = .ok (.iload 23, 2) := by decide +kernel
theorem dL_law_944 : decode cL_law 944 = .ok (.bipush 8, 2) := by decide +kernel
theorem dL_law_946 : decode cL_law 946 = .ok (.iload 22, 2) := by decide +kernel
theorem dL_law_948 : decode cL_law 948 = .ok (.imul, 1) := by decide +kernel
theorem dL_law_949 : decode cL_law 949 = .ok (.iload 15, 2) := by decide +kernel
theorem dL_law_951 : decode cL_law 951 = .ok (.iadd, 1) := by decide +kernel
theorem dL_law_952 : decode cL_law 952 = .ok (.iastore, 1) := by decide +kernel
theorem dL_law_953 : decode cL_law 953 = .ok (.aload 5, 2) := by decide +kernel
theorem dL_law_955 : decode cL_law 955 = .ok (.iload 23, 2) := by decide +kernel
theorem dL_law_957 : decode cL_law 957 = .ok (.iconst 1, 1) := by decide +kernel
theorem dL_law_958 : decode cL_law 958 = .ok (.iadd, 1) := by decide +kernel
theorem dL_law_959 : decode cL_law 959 = .ok (.iload 24, 2) := by decide +kernel
theorem dL_law_961 : decode cL_law 961 = .ok (.iastore, 1) := by decide +kernel
theorem dL_law_962 : decode cL_law 962 = .ok (.aload 5, 2) := by decide +kernel
theorem dL_law_964 : decode cL_law 964 = .ok (.iload 23, 2) := by decide +kernel
theorem dL_law_966 : decode cL_law 966 = .ok (.iconst 2, 1) := by decide +kernel
theorem dL_law_967 : decode cL_law 967 = .ok (.iadd, 1) := by decide +kernel
theorem dL_law_968 : decode cL_law 968 = .ok (.iload 25, 2) := by decide +kernel
theorem dL_law_970 : decode cL_law 970 = .ok (.iastore, 1) := by decide +kernel
theorem dL_law_971 : decode cL_law 971 = .ok (.aload 5, 2) := by decide +kernel
theorem dL_law_973 : decode cL_law 973 = .ok (.iload 23, 2) := by decide +kernel
theorem dL_law_975 : decode cL_law 975 = .ok (.iconst 3, 1) := by decide +kernel
theorem dL_law_976 : decode cL_law 976 = .ok (.iadd, 1) := by decide +kernel
theorem dL_law_977 : decode cL_law 977 = .ok (.iload 26, 2) := by decide +kernel
theorem dL_law_979 : decode cL_law 979 = .ok (.iastore, 1) := by decide +kernel
theorem dL_law_980 : decode cL_law 980 = .ok (.aload 5, 2) := by decide +kernel
theorem dL_law_982 : decode cL_law 982 = .ok (.iload 23, 2) := by decide +kernel
theorem dL_law_984 : decode cL_law 984 = .ok (.iconst 4, 1) := by decide +kernel
theorem dL_law_985 : decode cL_law 985 = .ok (.iadd, 1) := by decide +kernel
theorem dL_law_986 : decode cL_law 986 = .ok (.iload 27, 2) := by decide +kernel
theorem dL_law_988 : decode cL_law 988 = .ok (.iastore, 1) := by decide +kernel
theorem dL_law_989 : decode cL_law 989 = .ok (.aload 5, 2) := by decide +kernel
theorem dL_law_991 : decode cL_law 991 = .ok (.iload 23, 2) := by decide +kernel
theorem dL_law_993 : decode cL_law 993 = .ok (.iconst 5, 1) := by decide +kernel
theorem dL_law_994 : decode cL_law 994 = .ok (.iadd, 1) := by decide +kernel
theorem dL_law_995 : decode cL_law 995 = .ok (.iload 28, 2) := by decide +kernel
theorem dL_law_997 : decode cL_law 997 = .ok (.iastore, 1) := by decide +kernel
theorem dL_law_998 : decode cL_law 998 = .ok (.aload_n 2, 1) := by decide +kernel
theorem dL_law_999 : decode cL_law 999 = .ok (.iconst 2, 1) := by decide +kernel
theorem dL_law_1000 : decode cL_law 1000 = .ok (.dup2, 1) := by decide +kernel
theorem dL_law_1001 : decode cL_law 1001 = .ok (.iaload, 1) := by decide +kernel
theorem dL_law_1002 : decode cL_law 1002 = .ok (.iconst 1, 1) := by decide +kernel
theorem dL_law_1003 : decode cL_law 1003 = .ok (.iadd, 1) := by decide +kernel
theorem dL_law_1004 : decode cL_law 1004 = .ok (.iastore, 1) := by decide +kernel
theorem dL_law_1005 : decode cL_law 1005 = .ok (.goto 2283, 3) := by decide +kernel
theorem dL_law_1008 : decode cL_law 1008 = .ok (.iload 14, 2) := by decide +kernel
theorem dL_law_1010 : decode cL_law 1010 = .ok (.iconst 3, 1) := by decide +kernel
theorem dL_law_1011 : decode cL_law 1011 = .ok (.invokestatic 124, 3) := by decide +kernel
theorem dL_law_1014 : decode cL_law 1014 = .ok (.istore 30, 2) := by decide +kernel
theorem dL_law_1016 : decode cL_law 1016 = .ok (.iload 14, 2) := by decide +kernel
theorem dL_law_1018 : decode cL_law 1018 = .ok (.iconst 4, 1) := by decide +kernel
theorem dL_law_1019 : decode cL_law 1019 = .ok (.ishr, 1) := by decide +kernel
theorem dL_law_1020 : decode cL_law 1020 = .ok (.iconst 3, 1) := by decide +kernel
theorem dL_law_1021 : decode cL_law 1021 = .ok (.iand, 1) := by decide +kernel
theorem dL_law_1022 : decode cL_law 1022 = .ok (.ifCond .ne 7, 3) := by decide +kernel
theorem dL_law_1025 : decode cL_law 1025 = .ok (.iconst (-1), 1) := by decide +kernel
theorem dL_law_1026 : decode cL_law 1026 = .ok (.goto 5, 3) := by decide +kernel
theorem dL_law_1029 : decode cL_law 1029 = .ok (.iload 15, 2) := by decide +kernel
theorem dL_law_1031 : decode cL_law 1031 = .ok (.istore 31, 2) := by decide +kernel
theorem dL_law_1033 : decode cL_law 1033 = .ok (.aload_n 1, 1) := by decide +kernel
theorem dL_law_1034 : decode cL_law 1034 = .ok (.iload 30, 2) := by decide +kernel
theorem dL_law_1036 : decode cL_law 1036 = .ok (.iload 31, 2) := by decide +kernel
theorem dL_law_1038 : decode cL_law 1038 = .ok (.invokestatic 156, 3) := by decide +kernel
theorem dL_law_1041 : decode cL_law 1041 = .ok (.iload 31, 2) := by decide +kernel
theorem dL_law_1043 : decode cL_law 1043 = .ok (.iload 30, 2) := by decide +kernel
theorem dL_law_1045 : decode cL_law 1045 = .ok (.if_icmp .ne 9, 3) := by decide +kernel
theorem dL_law_1048 : decode cL_law 1048 = .ok (.sipush (-7200), 3) := by decide +kernel
theorem dL_law_1051 : decode cL_law 1051 = .ok (.goto 10, 3) := by decide +kernel
theorem dL_law_1054 : decode cL_law 1054 = .ok (.aload_n 2, 1) := by decide +kernel
theorem dL_law_1055 : decode cL_law 1055 = .ok (.bipush 6, 2) := by decide +kernel
theorem dL_law_1057 : decode cL_law 1057 = .ok (.iload 30, 2) := by decide +kernel
theorem dL_law_1059 : decode cL_law 1059 = .ok (.iadd, 1) := by decide +kernel
theorem dL_law_1060 : decode cL_law 1060 = .ok (.iaload, 1) := by decide +kernel
theorem dL_law_1061 : decode cL_law 1061 = .ok (.if_icmp .ne 7, 3) := by decide +kernel
theorem dL_law_1064 : decode cL_law 1064 = .ok (.iconst 1, 1) := by decide +kernel
theorem dL_law_1065 : decode cL_law 1065 = .ok (.goto 4, 3) := by decide +kernel
theorem dL_law_1068 : decode cL_law 1068 = .ok (.iconst 0, 1) := by decide +kernel
theorem dL_law_1069 : decode cL_law 1069 = .ok (.istore 18, 2) := by decide +kernel
theorem dL_law_1071 : decode cL_law 1071 = .ok (.aload_n 2, 1) := by decide +kernel
theorem dL_law_1072 : decode cL_law 1072 = .ok (.bipush 6, 2) := by decide +kernel
theorem dL_law_1074 : decode cL_law 1074 = .ok (.iload 30, 2) := by decide +kernel
theorem dL_law_1076 : decode cL_law 1076 = .ok (.iadd, 1) := by decide +kernel
theorem dL_law_1077 : decode cL_law 1077 = .ok (.iload 31, 2) := by decide +kernel
theorem dL_law_1079 : decode cL_law 1079 = .ok (.iload 30, 2) := by decide +kernel
theorem dL_law_1081 : decode cL_law 1081 = .ok (.if_icmp .ne 13, 3) := by decide +kernel
theorem dL_law_1084 : decode cL_law 1084 = .ok (.aload_n 2, 1) := by decide +kernel
theorem dL_law_1085 : decode cL_law 1085 = .ok (.bipush 6, 2) := by decide +kernel
theorem dL_law_1087 : decode cL_law 1087 = .ok (.iload 30, 2) := by decide +kernel
theorem dL_law_1089 : decode cL_law 1089 = .ok (.iadd, 1) := by decide +kernel
theorem dL_law_1090 : decode cL_law 1090 = .ok (.iaload, 1) := by decide +kernel
theorem dL_law_1091 : decode cL_law 1091 = .ok (.goto 5, 3) := by decide +kernel
theorem dL_law_1094 : decode cL_law 1094 = .ok (.iload 31, 2) := by decide +kernel
theorem dL_law_1096 : decode cL_law 1096 = .ok (.iastore, 1) := by decide +kernel
theorem dL_law_1097 : decode cL_law 1097 = .ok (.goto 2191, 3) := by decide +kernel
theorem dL_law_1100 : decode cL_law 1100 = .ok (.bipush 26, 2) := by decide +kernel
theorem dL_law_1102 : decode cL_law 1102 = .ok (.iconst 3, 1) := by decide +kernel
theorem dL_law_1103 : decode cL_law 1103 = .ok (.iload 14, 2) := by decide +kernel
theorem dL_law_1105 : decode cL_law 1105 = .ok (.iconst 3, 1) := by decide +kernel
theorem dL_law_1106 : decode cL_law 1106 = .ok (.invokestatic 124, 3) := by decide +kernel
theorem dL_law_1109 : decode cL_law 1109 = .ok (.imul, 1) := by decide +kernel
theorem dL_law_1110 : decode cL_law 1110 = .ok (.iadd, 1) := by decide +kernel
theorem dL_law_1111 : decode cL_law 1111 = .ok (.istore 32, 2) := by decide +kernel
theorem dL_law_1113 : decode cL_law 1113 = .ok (.iconst 0, 1) := by decide +kernel
theorem dL_law_1114 : decode cL_law 1114 = .ok (.istore 33, 2) := by decide +kernel
theorem dL_law_1116 : decode cL_law 1116 = .ok (.iload 33, 2) := by decide +kernel
theorem dL_law_1118 : decode cL_law 1118 = .ok (.iconst 3, 1) := by decide +kernel
theorem dL_law_1119 : decode cL_law 1119 = .ok (.if_icmp .ge 30, 3) := by decide +kernel
theorem dL_law_1122 : decode cL_law 1122 = .ok (.aload_n 2, 1) := by decide +kernel
theorem dL_law_1123 : decode cL_law 1123 = .ok (.iload 32, 2) := by decide +kernel
theorem dL_law_1125 : decode cL_law 1125 = .ok (.iload 33, 2) := by decide +kernel
theorem dL_law_1127 : decode cL_law 1127 = .ok (.iadd, 1) := by decide +kernel
theorem dL_law_1128 : decode cL_law 1128 = .ok (.iload 14, 2) := by decide +kernel
theorem dL_law_1130 : decode cL_law 1130 = .ok (.iconst 4, 1) := by decide +kernel
theorem dL_law_1131 : decode cL_law 1131 = .ok (.iconst 3, 1) := by decide +kernel
theorem dL_law_1132 : decode cL_law 1132 = .ok (.iload 33, 2) := by decide +kernel
theorem dL_law_1134 : decode cL_law 1134 = .ok (.imul, 1) := by decide +kernel
theorem dL_law_1135 : decode cL_law 1135 = .ok (.iadd, 1) := by decide +kernel
theorem dL_law_1136 : decode cL_law 1136 = .ok (.ishr, 1) := by decide +kernel
theorem dL_law_1137 : decode cL_law 1137 = .ok (.bipush 100, 2) := by decide +kernel
theorem dL_law_1139 : decode cL_law 1139 = .ok (.invokestatic 124, 3) := by decide +kernel
theorem dL_law_1142 : decode cL_law 1142 = .ok (.iastore, 1) := by decide +kernel
theorem dL_law_1143 : decode cL_law 1143 = .ok (.iinc 33 1, 3) := by decide +kernel
theorem dL_law_1146 : decode cL_law 1146 = .ok (.goto (-30), 3) := by decide +kernel
theorem dL_law_1149 : decode cL_law 1149 = .ok (.aload_n 1, 1) := by decide +kernel
theorem dL_law_1150 : decode cL_law 1150 = .ok (.iload 32, 2) := by decide +kernel
theorem dL_law_1152 : decode cL_law 1152 = .ok (.bipush 26, 2) := by decide +kernel
theorem dL_law_1154 : decode cL_law 1154 = .ok (.isub, 1) := by decide +kernel
theorem dL_law_1155 : decode cL_law 1155 = .ok (.iconst 3, 1) := by decide +kernel
theorem dL_law_1156 : decode cL_law 1156 = .ok (.idiv, 1) := by decide +kernel
theorem dL_law_1157 : decode cL_law 1157 = .ok (.aload_n 2, 1) := by decide +kernel
theorem dL_law_1158 : decode cL_law 1158 = .ok (.iload 32, 2) := by decide +kernel
theorem dL_law_1160 : decode cL_law 1160 = .ok (.iaload, 1) := by decide +kernel
theorem dL_law_1161 : decode cL_law 1161 = .ok (.aload_n 2, 1) := by decide +kernel
theorem dL_law_1162 : decode cL_law 1162 = .ok (.iload 32, 2) := by decide +kernel
theorem dL_law_1164 : decode cL_law 1164 = .ok (.iconst 1, 1) := by decide +kernel
theorem dL_law_1165 : decode cL_law 1165 = .ok (.iadd, 1) := by decide +kernel
theorem dL_law_1166 : decode cL_law 1166 = .ok (.iaload, 1) := by decide +kernel
theorem dL_law_1167 : decode cL_law 1167 = .ok (.aload_n 2, 1) := by decide +kernel
theorem dL_law_1168 : decode cL_law 1168 = .ok (.iload 32, 2) := by decide +kernel
theorem dL_law_1170 : decode cL_law 1170 = .ok (.iconst 2, 1) := by decide +kernel
theorem dL_law_1171 : decode cL_law 1171 = .ok (.iadd, 1) := by decide +kernel
theorem dL_law_1172 : decode cL_law 1172 = .ok (.iaload, 1) := by decide +kernel
theorem dL_law_1173 : decode cL_law 1173 = .ok (.invokestatic 158, 3) := by decide +kernel
theorem dL_law_1176 : decode cL_law 1176 = .ok (.ifCond .ne 7, 3) := by decide +kernel
theorem dL_law_1179 : decode cL_law 1179 = .ok (.iconst 1, 1) := by decide +kernel
theorem dL_law_1180 : decode cL_law 1180 = .ok (.goto 4, 3) := by decide +kernel
theorem dL_law_1183 : decode cL_law 1183 = .ok (.iconst 0, 1) := by decide +kernel
theorem dL_law_1184 : decode cL_law 1184 = .ok (.istore 18, 2) := by decide +kernel
theorem dL_law_1186 : decode cL_law 1186 = .ok (.goto 2102, 3) := by decide +kernel
theorem dL_law_1189 : decode cL_law 1189 = .ok (.iload 14, 2) := by decide +kernel
theorem dL_law_1191 : decode cL_law 1191 = .ok (.iconst 4, 1) := by decide +kernel
theorem dL_law_1192 : decode cL_law 1192 = .ok (.invokestatic 124, 3) := by decide +kernel
theorem dL_law_1195 : decode cL_law 1195 = .ok (.istore 33, 2) := by decide +kernel
theorem dL_law_1197 : decode cL_law 1197 = .ok (.aload_n 1, 1) := by decide +kernel
theorem dL_law_1198 : decode cL_law 1198 = .ok (.iload 15, 2) := by decide +kernel
theorem dL_law_1200 : decode cL_law 1200 = .ok (.iload 33, 2) := by decide +kernel
theorem dL_law_1202 : decode cL_law 1202 = .ok (.invokestatic 161, 3) := by decide +kernel
theorem dL_law_1205 : decode cL_law 1205 = .ok (.aload_n 2, 1) := by decide +kernel
theorem dL_law_1206 : decode cL_law 1206 = .ok (.bipush 12, 2) := by decide +kernel
theorem dL_law_1208 : decode cL_law 1208 = .ok (.iload 15, 2) := by decide +kernel
theorem dL_law_1210 : decode cL_law 1210 = .ok (.iadd, 1) := by decide +kernel
theorem dL_law_1211 : decode cL_law 1211 = .ok (.iaload, 1) := by decide +kernel
theorem dL_law_1212 : decode cL_law 1212 = .ok (.if_icmp .ne 7, 3) := by decide +kernel
theorem dL_law_1215 : decode cL_law 1215 = .ok (.iconst 1, 1) := by decide +kernel
theorem dL_law_1216 : decode cL_law 1216 = .ok (.goto 4, 3) := by decide +kernel
theorem dL_law_1219 : decode cL_law 1219 = .ok (.iconst 0, 1) := by decide +kernel
theorem dL_law_1220 : decode cL_law 1220 = .ok (.istore 18, 2) := by decide +kernel
theorem dL_law_1222 : decode cL_law 1222 = .ok (.aload_n 2, 1) := by decide +kernel
theorem dL_law_1223 : decode cL_law 1223 = .ok (.bipush 12, 2) := by decide +kernel
theorem dL_law_1225 : decode cL_law 1225 = .ok (.iload 15, 2) := by decide +kernel
theorem dL_law_1227 : decode cL_law 1227 = .ok (.iadd, 1) := by decide +kernel
theorem dL_law_1228 : decode cL_law 1228 = .ok (.iload 33, 2) := by decide +kernel
theorem dL_law_1230 : decode cL_law 1230 = .ok (.iastore, 1) := by decide +kernel
theorem dL_law_1231 : decode cL_law 1231 = .ok (.goto 2057, 3) := by decide +kernel
theorem dL_law_1234 : decode cL_law 1234 = .ok (.aload_n 2, 1) := by decide +kernel
theorem dL_law_1235 : decode cL_law 1235 = .ok (.iconst 1, 1) := by decide +kernel
theorem dL_law_1236 : decode cL_law 1236 = .ok (.iaload, 1) := by decide +kernel
theorem dL_law_1237 : decode cL_law 1237 = .ok (.bipush 6, 2) := by decide +kernel
theorem dL_law_1239 : decode cL_law 1239 = .ok (.if_icmp .ne 6, 3) := by decide +kernel
theorem dL_law_1242 : decode cL_law 1242 = .ok (.goto 2046, 3) := by decide +kernel
theorem dL_law_1245 : decode cL_law 1245 = .ok (.bipush 8, 2) := by decide +kernel
theorem dL_law_1247 : decode cL_law 1247 = .ok (.aload_n 2, 1) := by decide +kernel
theorem dL_law_1248 : decode cL_law 1248 = .ok (.iconst 1, 1) := by decide +kernel
theorem dL_law_1249 : decode cL_law 1249 = .ok (.iaload, 1) := by decide +kernel
theorem dL_law_1250 : decode cL_law 1250 = .ok (.imul, 1) := by decide +kernel
theorem dL_law_1251 : decode cL_law 1251 = .ok (.istore 34, 2) := by decide +kernel
theorem dL_law_1253 : decode cL_law 1253 = .ok (.aload_n 3, 1) := by decide +kernel
theorem dL_law_1254 : decode cL_law 1254 = .ok (.iload 34, 2) := by decide +kernel
theorem dL_law_1256 : decode cL_law 1256 = .ok (.iload 14, 2) := by decide +kernel
theorem dL_law_1258 : decode cL_law 1258 = .ok (.iconst 3, 1) := by decide +kernel
theorem dL_law_1259 : decode cL_law 1259 = .ok (.invokestatic 124, 3) := by decide +kernel
theorem dL_law_1262 : decode cL_law 1262 = .ok (.iastore, 1) := by decide +kernel
theorem dL_law_1263 : decode cL_law 1263 = .ok (.aload_n 3, 1) := by decide +kernel
theorem dL_law_1264 : decode cL_law 1264 = .ok (.iload 34, 2) := by decide +kernel
theorem dL_law_1266 : decode cL_law 1266 = .ok (.iconst 1, 1) := by decide +kernel
theorem dL_law_1267 : decode cL_law 1267 = .ok (.iadd, 1) := by decide +kernel
theorem dL_law_1268 : decode cL_law 1268 = .ok (.iload 14, 2) := by decide +kernel
theorem dL_law_1270 : decode cL_law 1270 = .ok (.iconst 3, 1) := by decide +kernel
theorem dL_law_1271 : decode cL_law 1271 = .ok (.ishr, 1) := by decide +kernel
theorem dL_law_1272 : decode cL_law 1272 = .ok (.iconst 4, 1) := by decide +kernel
theorem dL_law_1273 : decode cL_law 1273 = .ok (.invokestatic 124, 3) := by decide +kernel
theorem dL_law_1276 : decode cL_law 1276 = .ok (.iastore, 1) := by decide +kernel
theorem dL_law_1277 : decode cL_law 1277 = .ok (.aload_n 3, 1) := by decide +kernel
theorem dL_law_1278 : decode cL_law 1278 = .ok (.iload 34, 2) := by decide +kernel
theorem dL_law_1280 : decode cL_law 1280 = .ok (.iconst 2, 1) := by decide +kernel
theorem dL_law_1281 : decode cL_law 1281 = .ok (.iadd, 1) := by decide +kernel
theorem dL_law_1282 : decode cL_law 1282 = .ok (.iload 14, 2) := by decide +kernel
theorem dL_law_1284 : decode cL_law 1284 = .ok (.bipush 96, 2) := by decide +kernel
theorem dL_law_1286 : decode cL_law 1286 = .ok (.iand, 1) := by decide +kernel
theorem dL_law_1287 : decode cL_law 1287 = .ok (.ifCond .ne 16, 3) := by decide +kernel
theorem dL_law_1290 : decode cL_law 1290 = .ok (.iload 14, 2) := by decide +kernel
theorem dL_law_1292 : decode cL_law 1292 = .ok (.bipush 8, 2) := by decide +kernel
theorem dL_law_1294 : decode cL_law 1294 = .ok (.ishr, 1) := by decide +kernel
theorem dL_law_1295 : decode cL_law 1295 = .ok (.bipush 64, 2) := by decide +kernel
theorem dL_law_1297 : decode cL_law 1297 = .ok (.invokestatic 124, 3) := by decide +kernel
theorem dL_law_1300 : decode cL_law 1300 = .ok (.goto 4, 3) := by decide +kernel
theorem dL_law_1303 : decode cL_law 1303 = .ok (.iconst 0, 1) := by decide +kernel
theorem dL_law_1304 : decode cL_law 1304 = .ok (.iastore, 1) := by decide +kernel
theorem dL_law_1305 : decode cL_law 1305 = .ok (.aload_n 3, 1) := by decide +kernel
theorem dL_law_1306 : decode cL_law 1306 = .ok (.iload 34, 2) := by decide +kernel
theorem dL_law_1308 : decode cL_law 1308 = .ok (.iconst 3, 1) := by decide +kernel
theorem dL_law_1309 : decode cL_law 1309 = .ok (.iadd, 1) := by decide +kernel
theorem dL_law_1310 : decode cL_law 1310 = .ok (.iconst (-1), 1) := by decide +kernel
theorem dL_law_1311 : decode cL_law 1311 = .ok (.iastore, 1) := by decide +kernel
theorem dL_law_1312 : decode cL_law 1312 = .ok (.aload_n 3, 1) := by decide +kernel
theorem dL_law_1313 : decode cL_law 1313 = .ok (.iload 34, 2) := by decide +kernel
theorem dL_law_1315 : decode cL_law 1315 = .ok (.iconst 5, 1) := by decide +kernel
theorem dL_law_1316 : decode cL_law 1316 = .ok (.iadd, 1) := by decide +kernel
theorem dL_law_1317 : decode cL_law 1317 = .ok (.iconst (-1), 1) := by decide +kernel
theorem dL_law_1318 : decode cL_law 1318 = .ok (.iastore, 1) := by decide +kernel
theorem dL_law_1319 : decode cL_law 1319 = .ok (.aload_n 3, 1) := by decide +kernel
theorem dL_law_1320 : decode cL_law 1320 = .ok (.iload 34, 2) := by decide +kernel
theorem dL_law_1322 : decode cL_law 1322 = .ok (.bipush 6, 2) := by decide +kernel
theorem dL_law_1324 : decode cL_law 1324 = .ok (.iadd, 1) := by decide +kernel
theorem dL_law_1325 : decode cL_law 1325 = .ok (.sipush 5000, 3) := by decide +kernel
theorem dL_law_1328 : decode cL_law 1328 = .ok (.iastore, 1) := by decide +kernel
theorem dL_law_1329 : decode cL_law 1329 = .ok (.aload_n 1, 1) := by decide +kernel
theorem dL_law_1330 : decode cL_law 1330 = .ok (.aload_n 3, 1) := by decide +kernel
theorem dL_law_1331 : decode cL_law 1331 = .ok (.iload 34, 2) := by decide +kernel
theorem dL_law_1333 : decode cL_law 1333 = .ok (.iaload, 1) := by decide +kernel
theorem dL_law_1334 : decode cL_law 1334 = .ok (.aload_n 3, 1) := by decide +kernel
theorem dL_law_1335 : decode cL_law 1335 = .ok (.iload 34, 2) := by decide +kernel
theorem dL_law_1337 : decode cL_law 1337 = .ok (.iconst 1, 1) := by decide +kernel
theorem dL_law_1338 : decode cL_law 1338 = .ok (.iadd, 1) := by decide +kernel
theorem dL_law_1339 : decode cL_law 1339 = .ok (.iaload, 1) := by decide +kernel
theorem dL_law_1340 : decode cL_law 1340 = .ok (.aload_n 3, 1) := by decide +kernel
theorem dL_law_1341 : decode cL_law 1341 = .ok (.iload 34, 2) := by decide +kernel
theorem dL_law_1343 : decode cL_law 1343 = .ok (.iconst 2, 1) := by decide +kernel
theorem dL_law_1344 : decode cL_law 1344 = .ok (.iadd, 1) := by decide +kernel
theorem dL_law_1345 : decode cL_law 1345 = .ok (.iaload, 1) := by decide +kernel
theorem dL_law_1346 : decode cL_law 1346 = .ok (.invokestatic 163, 3) := by decide +kernel
theorem dL_law_1349 : decode cL_law 1349 = .ok (.aload_n 2, 1) := by decide +kernel
theorem dL_law_1350 : decode cL_law 1350 = .ok (.iconst 1, 1) := by decide +kernel
theorem dL_law_1351 : decode cL_law 1351 = .ok (.iaload, 1) := by decide +kernel
theorem dL_law_1352 : decode cL_law 1352 = .ok (.if_icmp .ne 7, 3) := by decide +kernel
theorem dL_law_1355 : decode cL_law 1355 = .ok (.iconst 1, 1) := by decide +kernel
theorem dL_law_1356 : decode cL_law 1356 = .ok (.goto 4, 3) := by decide +kernel
theorem dL_law_1359 : decode cL_law 1359 = .ok (.iconst 0, 1) := by decide +kernel
theorem dL_law_1360 : decode cL_law 1360 = .ok (.istore 18, 2) := by decide +kernel
theorem dL_law_1362 : decode cL_law 1362 = .ok (.aload_n 2, 1) := by decide +kernel
theorem dL_law_1363 : decode cL_law 1363 = .ok (.iconst 1, 1) := by decide +kernel
theorem dL_law_1364 : decode cL_law 1364 = .ok (.dup2, 1) := by decide +kernel
theorem dL_law_1365 : decode cL_law 1365 = .ok (.iaload, 1) := by decide +kernel
theorem dL_law_1366 : decode cL_law 1366 = .ok (.iconst 1, 1) := by decide +kernel
theorem dL_law_1367 : decode cL_law 1367 = .ok (.iadd, 1) := by decide +kernel
theorem dL_law_1368 : decode cL_law 1368 = .ok (.iastore, 1) := by decide +kernel
theorem dL_law_1369 : decode cL_law 1369 = .ok (.goto 1919, 3) := by decide +kernel
theorem dL_law_1372 : decode cL_law 1372 = .ok (.aload_n 2, 1) := by decide +kernel
theorem dL_law_1373 : decode cL_law 1373 = .ok (.iconst 1, 1) := by decide +kernel
theorem dL_law_1374 : decode cL_law 1374 = .ok (.iaload, 1) := by decide +kernel
theorem dL_law_1375 : decode cL_law 1375 = .ok (.ifCond .ne 6, 3) := by decide +kernel
theorem dL_law_1378 : decode cL_law 1378 = .ok (.goto 1910, 3) := by decide +kernel
theorem dL_law_1381 : decode cL_law 1381 = .ok (.aload_n 3, 1) := by decide +kernel
theorem dL_law_1382 : decode cL_law 1382 = .ok (.bipush 8, 2) := by decide +kernel
theorem dL_law_1384 : decode cL_law 1384 = .ok (.iload 16, 2) := by decide +kernel
theorem dL_law_1386 : decode cL_law 1386 = .ok (.imul, 1) := by decide +kernel
theorem dL_law_1387 : decode cL_law 1387 = .ok (.iconst 1, 1) := by decide +kernel
theorem dL_law_1388 : decode cL_law 1388 = .ok (.iadd, 1) := by decide +kernel
theorem dL_law_1389 : decode cL_law 1389 = .ok (.iload 14, 2) := by decide +kernel
theorem dL_law_1391 : decode cL_law 1391 = .ok (.iconst 4, 1) := by decide +kernel
theorem dL_law_1392 : decode cL_law 1392 = .ok (.invokestatic 124, 3) := by decide +kernel
theorem dL_law_1395 : decode cL_law 1395 = .ok (.iastore, 1) := by decide +kernel
theorem dL_law_1396 : decode cL_law 1396 = .ok (.aload_n 3, 1) := by decide +kernel
theorem dL_law_1397 : decode cL_law 1397 = .ok (.bipush 8, 2) := by decide +kernel
theorem dL_law_1399 : decode cL_law 1399 = .ok (.iload 16, 2) := by decide +kernel
theorem dL_law_1401 : decode cL_law 1401 = .ok (.imul, 1) := by decide +kernel
theorem dL_law_1402 : decode cL_law 1402 = .ok (.iconst 4, 1) := by decide +kernel
theorem dL_law_1403 : decode cL_law 1403 = .ok (.iadd, 1) := by decide +kernel
theorem dL_law_1404 : decode cL_law 1404 = .ok (.iconst 0, 1) := by decide +kernel
theorem dL_law_1405 : decode cL_law 1405 = .ok (.iastore, 1) := by decide +kernel
theorem dL_law_1406 : decode cL_law 1406 = .ok (.aload_n 3, 1) := by decide +kernel
theorem dL_law_1407 : decode cL_law 1407 = .ok (.bipush 8, 2) := by decide +kernel
theorem dL_law_1409 : decode cL_law 1409 = .ok (.iload 16, 2) := by decide +kernel
theorem dL_law_1411 : decode cL_law 1411 = .ok (.imul, 1) := by decide +kernel
theorem dL_law_1412 : decode cL_law 1412 = .ok (.iconst 3, 1) := by decide +kernel
theorem dL_law_1413 : decode cL_law 1413 = .ok (.iadd, 1) := by decide +kernel
theorem dL_law_1414 : decode cL_law 1414 = .ok (.iaload, 1) := by decide +kernel
theorem dL_law_1415 : decode cL_law 1415 = .ok (.iconst (-1), 1) := by decide +kernel
theorem dL_law_1416 : decode cL_law 1416 = .ok (.if_icmp .eq 42, 3) := by decide +kernel
theorem dL_law_1419 : decode cL_law 1419 = .ok (.aload_n 2, 1) := by decide +kernel
theorem dL_law_1420 : decode cL_law 1420 = .ok (.bipush 18, 2) := by decide +kernel
theorem dL_law_1422 : decode cL_law 1422 = .ok (.aload_n 3, 1) := by decide +kernel
theorem dL_law_1423 : decode cL_law 1423 = .ok (.bipush 8, 2) := by decide +kernel
theorem dL_law_1425 : decode cL_law 1425 = .ok (.iload 16, 2) := by decide +kernel
theorem dL_law_1427 : decode cL_law 1427 = .ok (.imul, 1) := by decide +kernel
theorem dL_law_1428 : decode cL_law 1428 = .ok (.iconst 1, 1) := by decide +kernel
theorem dL_law_1429 : decode cL_law 1429 = .ok (.iadd, 1) := by decide +kernel
theorem dL_law_1430 : decode cL_law 1430 = .ok (.iaload, 1) := by decide +kernel
theorem dL_law_1431 : decode cL_law 1431 = .ok (.iadd, 1) := by decide +kernel
theorem dL_law_1432 : decode cL_law 1432 = .ok (.iaload, 1) := by decide +kernel
theorem dL_law_1433 : decode cL_law 1433 = .ok (.aload_n 3, 1) := by decide +kernel
theorem dL_law_1434 : decode cL_law 1434 = .ok (.bipush 8, 2) := by decide +kernel
theorem dL_law_1436 : decode cL_law 1436 = .ok (.iload 16, 2) := by decide +kernel
theorem dL_law_1438 : decode cL_law 1438 = .ok (.imul, 1) := by decide +kernel
theorem dL_law_1439 : decode cL_law 1439 = .ok (.iconst 3, 1) := by decide +kernel
theorem dL_law_1440 : decode cL_law 1440 = .ok (.iadd, 1) := by decide +kernel
theorem dL_law_1441 : decode cL_law 1441 = .ok (.iaload, 1) := by decide +kernel
theorem dL_law_1442 : decode cL_law 1442 = .ok (.ishr, 1) := by decide +kernel
theorem dL_law_1443 : decode cL_law 1443 = .ok (.iconst 1, 1) := by decide +kernel
theorem dL_law_1444 : decode cL_law 1444 = .ok (.iand, 1) := by decide +kernel
theorem dL_law_1445 : decode cL_law 1445 = .ok (.ifCond .ne 13, 3) := by decide +kernel
theorem dL_law_1448 : decode cL_law 1448 = .ok (.aload_n 3, 1) := by decide +kernel
theorem dL_law_1449 : decode cL_law 1449 = .ok (.bipush 8, 2) := by decide +kernel
theorem dL_law_1451 : decode cL_law 1451 = .ok (.iload 16, 2) := by decide +kernel
theorem dL_law_1453 : decode cL_law 1453 = .ok (.imul, 1) := by decide +kernel
theorem dL_law_1454 : decode cL_law 1454 = .ok (.iconst 3, 1) := by decide +kernel
theorem dL_law_1455 : decode cL_law 1455 = .ok (.iadd, 1) := by decide +kernel
theorem dL_law_1456 : decode cL_law 1456 = .ok (.iconst (-1), 1) := by decide +kernel
theorem dL_law_1457 : decode cL_law 1457 = .ok (.iastore, 1) := by decide +kernel
theorem dL_law_1458 : decode cL_law 1458 = .ok (.aload_n 1, 1) := by decide +kernel
theorem dL_law_1459 : decode cL_law 1459 = .ok (.iload 16, 2) := by decide +kernel
theorem dL_law_1461 : decode cL_law 1461 = .ok (.aload_n 3, 1) := by decide +kernel
theorem dL_law_1462 : decode cL_law 1462 = .ok (.bipush 8, 2) := by decide +kernel
theorem dL_law_1464 : decode cL_law 1464 = .ok (.iload 16, 2) := by decide +kernel
theorem dL_law_1466 : decode cL_law 1466 = .ok (.imul, 1) := by decide +kernel
theorem dL_law_1467 : decode cL_law 1467 = .ok (.iconst 1, 1) := by decide +kernel
theorem dL_law_1468 : decode cL_law 1468 = .ok (.iadd, 1) := by decide +kernel
theorem dL_law_1469 : decode cL_law 1469 = .ok (.iaload, 1) := by decide +kernel
theorem dL_law_1470 : decode cL_law 1470 = .ok (.invokestatic 165, 3) := by decide +kernel
theorem dL_law_1473 : decode cL_law 1473 = .ok (.aload_n 3, 1) := by decide +kernel
theorem dL_law_1474 : decode cL_law 1474 = .ok (.bipush 8, 2) := by decide +kernel
theorem dL_law_1476 : decode cL_law 1476 = .ok (.iload 16, 2) := by decide +kernel
theorem dL_law_1478 : decode cL_law 1478 = .ok (.imul, 1) := by decide +kernel
theorem dL_law_1479 : decode cL_law 1479 = .ok (.iconst 3, 1) := by decide +kernel
theorem dL_law_1480 : decode cL_law 1480 = .ok (.iadd, 1) := by decide +kernel
theorem dL_law_1481 : decode cL_law 1481 = .ok (.iaload, 1) := by decide +kernel
theorem dL_law_1482 : decode cL_law 1482 = .ok (.if_icmp .ne 7, 3) := by decide +kernel
theorem dL_law_1485 : decode cL_law 1485 = .ok (.iconst 1, 1) := by decide +kernel
theorem dL_law_1486 : decode cL_law 1486 = .ok (.goto 4, 3) := by decide +kernel
theorem dL_law_1489 : decode cL_law 1489 = .ok (.iconst 0, 1) := by decide +kernel
theorem dL_law_1490 : decode cL_law 1490 = .ok (.istore 18, 2) := by decide +kernel
theorem dL_law_1492 : decode cL_law 1492 = .ok (.goto 1796, 3) := by decide +kernel
theorem dL_law_1495 : decode cL_law 1495 = .ok (.aload_n 2, 1) := by decide +kernel
theorem dL_law_1496 : decode cL_law 1496 = .ok (.iconst 1, 1) := by decide +kernel
theorem dL_law_1497 : decode cL_law 1497 = .ok (.iaload, 1) := by decide +kernel
theorem dL_law_1498 : decode cL_law 1498 = .ok (.ifCond .eq 1790, 3) := by decide +kernel
theorem dL_law_1501 : decode cL_law 1501 = .ok (.iload 14, 2) := by decide +kernel
theorem dL_law_1503 : decode cL_law 1503 = .ok (.bipush 6, 2) := by decide +kernel
theorem dL_law_1505 : decode cL_law 1505 = .ok (.iand, 1) := by decide +kernel
theorem dL_law_1506 : decode cL_law 1506 = .ok (.ifCond .le 6, 3) := by decide +kernel
theorem dL_law_1509 : decode cL_law 1509 = .ok (.goto 1779, 3) := by decide +kernel
theorem dL_law_1512 : decode cL_law 1512 = .ok (.aload_n 1, 1) := by decide +kernel
theorem dL_law_1513 : decode cL_law 1513 = .ok (.iload 16, 2) := by decide +kernel
theorem dL_law_1515 : decode cL_law 1515 = .ok (.invokestatic 167, 3) := by decide +kernel
theorem dL_law_1518 : decode cL_law 1518 = .ok (.aload_n 3, 1) := by decide +kernel
theorem dL_law_1519 : decode cL_law 1519 = .ok (.bipush 8, 2) := by decide +kernel
theorem dL_law_1521 : decode cL_law 1521 = .ok (.iload 16, 2) := by decide +kernel
theorem dL_law_1523 : decode cL_law 1523 = .ok (.imul, 1) := by decide +kernel
theorem dL_law_1524 : decode cL_law 1524 = .ok (.iconst 3, 1) := by decide +kernel
theorem dL_law_1525 : decode cL_law 1525 = .ok (.iadd, 1) := by decide +kernel
theorem dL_law_1526 : decode cL_law 1526 = .ok (.iaload, 1) := by decide +kernel
theorem dL_law_1527 : decode cL_law 1527 = .ok (.if_icmp .ne 7, 3) := by decide +kernel
theorem dL_law_1530 : decode cL_law 1530 = .ok (.iconst 1, 1) := by decide +kernel
theorem dL_law_1531 : decode cL_law 1531 = .ok (.goto 4, 3) := by decide +kernel
theorem dL_law_1534 : decode cL_law 1534 = .ok (.iconst 0, 1) := by decide +kernel
theorem dL_law_1535 : decode cL_law 1535 = .ok (.istore 18, 2) := by decide +kernel
theorem dL_law_1537 : decode cL_law 1537 = .ok (.aload_n 3, 1) := by decide +kernel
theorem dL_law_1538 : decode cL_law 1538 = .ok (.bipush 8, 2) := by decide +kernel
theorem dL_law_1540 : decode cL_law 1540 = .ok (.iload 16, 2) := by decide +kernel
theorem dL_law_1542 : decode cL_law 1542 = .ok (.imul, 1) := by decide +kernel
theorem dL_law_1543 : decode cL_law 1543 = .ok (.iconst 3, 1) := by decide +kernel
theorem dL_law_1544 : decode cL_law 1544 = .ok (.iadd, 1) := by decide +kernel
theorem dL_law_1545 : decode cL_law 1545 = .ok (.iconst (-1), 1) := by decide +kernel
theorem dL_law_1546 : decode cL_law 1546 = .ok (.iastore, 1) := by decide +kernel
theorem dL_law_1547 : decode cL_law 1547 = .ok (.goto 1741, 3) := by decide +kernel
theorem dL_law_1550 : decode cL_law 1550 = .ok (.iconst 0, 1) := by decide +kernel
theorem dL_law_1551 : decode cL_law 1551 = .ok (.istore 35, 2) := by decide +kernel
theorem dL_law_1553 : decode cL_law 1553 = .ok (.iconst 0, 1) := by decide +kernel
theorem dL_law_1554 : decode cL_law 1554 = .ok (.istore 36, 2) := by decide +kernel
theorem dL_law_1556 : decode cL_law 1556 = .ok (.iload 36, 2) := by decide +kernel
theorem dL_law_1558 : decode cL_law 1558 = .ok (.bipush 6, 2) := by decide +kernel
theorem dL_law_1560 : decode cL_law 1560 = .ok (.if_icmp .ge 34, 3) := by decide +kernel
theorem dL_law_1563 : decode cL_law 1563 = .ok (.iload 35, 2) := by decide +kernel
theorem dL_law_1565 : decode cL_law 1565 = .ok (.aload 4, 2) := by decide +kernel
theorem dL_law_1567 : decode cL_law 1567 = .ok (.bipush 6, 2) := by decide +kernel
theorem dL_law_1569 : decode cL_law 1569 = .ok (.iload 15, 2) := by decide +kernel
theorem dL_law_1571 : decode cL_law 1571 = .ok (.imul, 1) := by decide +kernel
theorem dL_law_1572 : decode cL_law 1572 = .ok (.iload 36, 2) := by decide +kernel
theorem dL_law_1574 : decode cL_law 1574 = .ok (.iadd, 1) := by decide +kernel
theorem dL_law_1575 : decode cL_law 1575 = .ok (.iaload, 1) := by decide +kernel
theorem dL_law_1576 : decode cL_law 1576 = .ok (.iconst (-1), 1) := by decide +kernel
theorem dL_law_1577 : decode cL_law 1577 = .ok (.if_icmp .ne 7, 3) := by decide +kernel
theorem dL_law_1580 : decode cL_law 1580 = .ok (.iconst 0, 1) := by decide +kernel
theorem dL_law_1581 : decode cL_law 1581 = .ok (.goto 4, 3) := by decide +kernel
theorem dL_law_1584 : decode cL_law 1584 = .ok (.iconst 1, 1) := by decide +kernel
theorem dL_law_1585 : decode cL_law 1585 = .ok (.iadd, 1) := by decide +kernel
theorem dL_law_1586 : decode cL_law 1586 = .ok (.istore 35, 2) := by decide +kernel
theorem dL_law_1588 : decode cL_law 1588 = .ok (.iinc 36 1, 3) := by decide +kernel
theorem dL_law_1591 : decode cL_law 1591 = .ok (.goto (-35), 3) := by decide +kernel
theorem dL_law_1594 : decode cL_law 1594 = .ok (.aload_n 1, 1) := by decide +kernel
theorem dL_law_1595 : decode cL_law 1595 = .ok (.iload 15, 2) := by decide +kernel
theorem dL_law_1597 : decode cL_law 1597 = .ok (.invokestatic 169, 3) := by decide +kernel
theorem dL_law_1600 : decode cL_law 1600 = .ok (.iload 35, 2) := by decide +kernel
theorem dL_law_1602 : decode cL_law 1602 = .ok (.if_icmp .ne 7, 3) := by decide +kernel
theorem dL_law_1605 : decode cL_law 1605 = .ok (.iconst 1, 1) := by decide +kernel
theorem dL_law_1606 : decode cL_law 1606 = .ok (.goto 4, 3) := by decide +kernel
theorem dL_law_1609 : decode cL_law 1609 = .ok (.iconst 0, 1) := by decide +kernel
theorem dL_law_1610 : decode cL_law 1610 = .ok (.istore 18, 2) := by decide +kernel
theorem dL_law_1612 : decode cL_law 1612 = .ok (.iconst 0, 1) := by decide +kernel
theorem dL_law_1613 : decode cL_law 1613 = .ok (.istore 36, 2) := by decide +kernel
theorem dL_law_1615 : decode cL_law 1615 = .ok (.iload 36, 2) := by decide +kernel
theorem dL_law_1617 : decode cL_law 1617 = .ok (.bipush 6, 2) := by decide +kernel
theorem dL_law_1619 : decode cL_law 1619 = .ok (.if_icmp .ge 21, 3) := by decide +kernel
theorem dL_law_1622 : decode cL_law 1622 = .ok (.aload 4, 2) := by decide +kernel
theorem dL_law_1624 : decode cL_law 1624 = .ok (.bipush 6, 2) := by decide +kernel
theorem dL_law_1626 : decode cL_law 1626 = .ok (.iload 15, 2) := by decide +kernel
theorem dL_law_1628 : decode cL_law 1628 = .ok (.imul, 1) := by decide +kernel
theorem dL_law_1629 : decode cL_law 1629 = .ok (.iload 36, 2) := by decide +kernel
theorem dL_law_1631 : decode cL_law 1631 = .ok (.iadd, 1) := by decide +kernel
theorem dL_law_1632 : decode cL_law 1632 = .ok (.iconst (-1), 1) := by decide +kernel
theorem dL_law_1633 : decode cL_law 1633 = .ok (.iastore, 1) := by decide +kernel
theorem dL_law_1634 : decode cL_law 1634 = .ok (.iinc 36 1, 3) := by decide +kernel
theorem dL_law_1637 : decode cL_law 1637 = .ok (.goto (-22), 3) := by decide +kernel
theorem dL_law_1640 : decode cL_law 1640 = .ok (.goto 1648, 3) := by decide +kernel
theorem dL_law_1643 : decode cL_law 1643 = .ok (.aload_n 2, 1) := by decide +kernel
theorem dL_law_1644 : decode cL_law 1644 = .ok (.iconst 1, 1) := by decide +kernel
theorem dL_law_1645 : decode cL_law 1645 = .ok (.iaload, 1) := by decide +kernel
theorem dL_law_1646 : decode cL_law 1646 = .ok (.ifCond .ne 6, 3) := by decide +kernel
theorem dL_law_1649 : decode cL_law 1649 = .ok (.goto 1639, 3) := by decide +kernel
theorem dL_law_1652 : decode cL_law 1652 = .ok (.iconst 0, 1) := by decide +kernel
theorem dL_law_1653 : decode cL_law 1653 = .ok (.istore 36, 2) := by decide +kernel
theorem dL_law_1655 : decode cL_law 1655 = .ok (.iload 36, 2) := by decide +kernel
theorem dL_law_1657 : decode cL_law 1657 = .ok (.iconst 4, 1) := by decide +kernel
theorem dL_law_1658 : decode cL_law 1658 = .ok (.if_icmp .ge 236, 3) := by decide +kernel
theorem dL_law_1661 : decode cL_law 1661 = .ok (.iload 15, 2) := by decide +kernel
theorem dL_law_1663 : decode cL_law 1663 = .ok (.iload 36, 2) := by decide +kernel
theorem dL_law_1665 : decode cL_law 1665 = .ok (.iadd, 1) := by decide +kernel
theorem dL_law_1666 : decode cL_law 1666 = .ok (.bipush 6, 2) := by decide +kernel
theorem dL_law_1668 : decode cL_law 1668 = .ok (.irem, 1) := by decide +kernel
theorem dL_law_1669 : decode cL_law 1669 = .ok (.istore 37, 2) := by decide +kernel
theorem dL_law_1671 : decode cL_law 1671 = .ok (.aload_n 3, 1) := by decide +kernel
theorem dL_law_1672 : decode cL_law 1672 = .ok (.bipush 8, 2) := by decide +kernel
theorem dL_law_1674 : decode cL_law 1674 = .ok (.iload 16, 2) := by decide +kernel
theorem dL_law_1676 : decode cL_law 1676 = .ok (.imul, 1) := by decide +kernel
theorem dL_law_1677 : decode cL_law 1677 = .ok (.iconst 3, 1) := by decide +kernel
theorem dL_law_1678 : decode cL_law 1678 = .ok (.iadd, 1) := by decide +kernel
theorem dL_law_1679 : decode cL_law 1679 = .ok (.iaload, 1) := by decide +kernel
theorem dL_law_1680 : decode cL_law 1680 = .ok (.iload 37, 2) := by decide +kernel
theorem dL_law_1682 : decode cL_law 1682 = .ok (.if_icmp .ne 30, 3) := by decide +kernel
theorem dL_law_1685 : decode cL_law 1685 = .ok (.iload 18, 2) := by decide +kernel
theorem dL_law_1687 : decode cL_law 1687 = .ok (.aload_n 1, 1) := by decide +kernel
theorem dL_law_1688 : decode cL_law 1688 = .ok (.iload 16, 2) := by decide +kernel
theorem dL_law_1690 : decode cL_law 1690 = .ok (.iload 37, 2) := by decide +kernel
theorem dL_law_1692 : decode cL_law 1692 = .ok (.invokestatic 171, 3) := by decide +kernel
theorem dL_law_1695 : decode cL_law 1695 = .ok (.sipush (-7300), 3) := by decide +kernel
theorem dL_law_1698 : decode cL_law 1698 = .ok (.if_icmp .ne 7, 3) := by decide +kernel
theorem dL_law_1701 : decode cL_law 1701 = .ok (.iconst 1, 1) := by decide +kernel
theorem dL_law_1702 : decode cL_law 1702 = .ok (.goto 4, 3) := by decide +kernel
theorem dL_law_1705 : decode cL_law 1705 = .ok (.iconst 0, 1) := by decide +kernel
theorem dL_law_1706 : decode cL_law 1706 = .ok (.iand, 1) := by decide +kernel
theorem dL_law_1707 : decode cL_law 1707 = .ok (.istore 18, 2) := by decide +kernel
theorem dL_law_1709 : decode cL_law 1709 = .ok (.goto 185, 3) := by decide +kernel
theorem dL_law_1712 : decode cL_law 1712 = .ok (.iload 16, 2) := by decide +kernel
theorem dL_law_1714 : decode cL_law 1714 = .ok (.iload 37, 2) := by decide +kernel
theorem dL_law_1716 : decode cL_law 1716 = .ok (.aload_n 3, 1) := by decide +kernel
theorem dL_law_1717 : decode cL_law 1717 = .ok (.aload 5, 2) := by decide +kernel
theorem dL_law_1719 : decode cL_law 1719 = .ok (.aload_n 2, 1) := by decide +kernel
theorem dL_law_1720 : decode cL_law 1720 = .ok (.invokestatic 173, 3) := by decide +kernel
theorem dL_law_1723 : decode cL_law 1723 = .ok (.istore 38, 2) := by decide +kernel
theorem dL_law_1725 : decode cL_law 1725 = .ok (.aload_n 2, 1) := by decide +kernel
theorem dL_law_1726 : decode cL_law 1726 = .ok (.bipush 6, 2) := by decide +kernel
theorem dL_law_1728 : decode cL_law 1728 = .ok (.aload_n 3, 1) := by decide +kernel
theorem dL_law_1729 : decode cL_law 1729 = .ok (.bipush 8, 2) := by decide +kernel
theorem dL_law_1731 : decode cL_law 1731 = .ok (.iload 16, 2) := by decide +kernel
theorem dL_law_1733 : decode cL_law 1733 = .ok (.imul, 1) := by decide +kernel
theorem dL_law_1734 : decode cL_law 1734 = .ok (.iaload, 1) := by decide +kernel
theorem dL_law_1735 : decode cL_law 1735 = .ok (.iadd, 1) := by decide +kernel
theorem dL_law_1736 : decode cL_law 1736 = .ok (.iaload, 1) := by decide +kernel
theorem dL_law_1737 : decode cL_law 1737 = .ok (.istore 39, 2) := by decide +kernel
theorem dL_law_1739 : decode cL_law 1739 = .ok (.iload 38, 2) := by decide +kernel
theorem dL_law_1741 : decode cL_law 1741 = .ok (.ifCond .ne 46, 3) := by decide +kernel
theorem dL_law_1744 : decode cL_law 1744 = .ok (.iload 39, 2) := by decide +kernel
theorem dL_law_1746 : decode cL_law 1746 = .ok (.iconst (-1), 1) := by decide +kernel
theorem dL_law_1747 : decode cL_law 1747 = .ok (.if_icmp .eq 40, 3) := by decide +kernel
theorem dL_law_1750 : decode cL_law 1750 = .ok (.iload 39, 2) := by decide +kernel
theorem dL_law_1752 : decode cL_law 1752 = .ok (.iload 37, 2) := by decide +kernel
theorem dL_law_1754 : decode cL_law 1754 = .ok (.if_icmp .eq 33, 3) := by decide +kernel
theorem dL_law_1757 : decode cL_law 1757 = .ok (.aload_n 3, 1) := by decide +kernel
theorem dL_law_1758 : decode cL_law 1758 = .ok (.bipush 8, 2) := by decide +kernel
theorem dL_law_1760 : decode cL_law 1760 = .ok (.iload 16, 2) := by decide +kernel
theorem dL_law_1762 : decode cL_law 1762 = .ok (.imul, 1) := by decide +kernel
theorem dL_law_1763 : decode cL_law 1763 = .ok (.iconst 4, 1) := by decide +kernel
theorem dL_law_1764 : decode cL_law 1764 = .ok (.iadd, 1) := by decide +kernel
theorem dL_law_1765 : decode cL_law 1765 = .ok (.iaload, 1) := by decide +kernel
theorem dL_law_1766 : decode cL_law 1766 = .ok (.iconst 2, 1) := by decide +kernel
theorem dL_law_1767 : decode cL_law 1767 = .ok (.if_icmp .ge 20, 3) := by decide +kernel
theorem dL_law_1770 : decode cL_law 1770 = .ok (.iload 16, 2) := by decide +kernel
theorem dL_law_1772 : decode cL_law 1772 = .ok (.iload 39, 2) := by decide +kernel
theorem dL_law_1774 : decode cL_law 1774 = .ok (.aload_n 3, 1) := by decide +kernel
theorem dL_law_1775 : decode cL_law 1775 = .ok (.aload 5, 2) := by decide +kernel
theorem dL_law_1777 : decode cL_law 1777 = .ok (.aload_n 2, 1) := by decide +kernel
theorem dL_law_1778 : decode cL_law 1778 = .ok (.invokestatic 173, 3) := by decide +kernel
theorem dL_law_1781 : decode cL_law 1781 = .ok (.ifCond .ne 6, 3) := by decide +kernel
theorem dL_law_1784 : decode cL_law 1784 = .ok (.iconst 5, 1) := by decide +kernel
theorem dL_law_1785 : decode cL_law 1785 = .ok (.istore 38, 2) := by decide +kernel
theorem dL_law_1787 : decode cL_law 1787 = .ok (.iload 18, 2) := by decide +kernel
theorem dL_law_1789 : decode cL_law 1789 = .ok (.aload_n 1, 1) := by decide +kernel
theorem dL_law_1790 : decode cL_law 1790 = .ok (.iload 16, 2) := by decide +kernel
theorem dL_law_1792 : decode cL_law 1792 = .ok (.iload 37, 2) := by decide +kernel
theorem dL_law_1794 : decode cL_law 1794 = .ok (.invokestatic 171, 3) := by decide +kernel
theorem dL_law_1797 : decode cL_law 1797 = .ok (.iload 38, 2) := by decide +kernel
theorem dL_law_1799 : decode cL_law 1799 = .ok (.if_icmp .ne 7, 3) := by decide +kernel
theorem dL_law_1802 : decode cL_law 1802 = .ok (.iconst 1, 1) := by decide +kernel
theorem dL_law_1803 : decode cL_law 1803 = .ok (.goto 4, 3) := by decide +kernel
theorem dL_law_1806 : decode cL_law 1806 = .ok (.iconst 0, 1) := by decide +kernel
theorem dL_law_1807 : decode cL_law 1807 = .ok (.iand, 1) := by decide +kernel
theorem dL_law_1808 : decode cL_law 1808 = .ok (.istore 18, 2) := by decide +kernel
theorem dL_law_1810 : decode cL_law 1810 = .ok (.aload_n 3, 1) := by decide +kernel
theorem dL_law_1811 : decode cL_law 1811 = .ok (.bipush 8, 2) := by decide +kernel
theorem dL_law_1813 : decode cL_law 1813 = .ok (.iload 16, 2) := by decide +kernel
theorem dL_law_1815 : decode cL_law 1815 = .ok (.imul, 1) := by decide +kernel
theorem dL_law_1816 : decode cL_law 1816 = .ok (.iconst 4, 1) := by decide +kernel
theorem dL_law_1817 : decode cL_law 1817 = .ok (.iadd, 1) := by decide +kernel
theorem dL_law_1818 : decode cL_law 1818 = .ok (.iload 38, 2) := by decide +kernel
theorem dL_law_1820 : decode cL_law 1820 = .ok (.iconst 5, 1) := by decide +kernel
theorem dL_law_1821 : decode cL_law 1821 = .ok (.if_icmp .ne 17, 3) := by decide +kernel
theorem dL_law_1824 : decode cL_law 1824 = .ok (.aload_n 3, 1) := by decide +kernel
theorem dL_law_1825 : decode cL_law 1825 = .ok (.bipush 8, 2) := by decide +kernel
theorem dL_law_1827 : decode cL_law 1827 = .ok (.iload 16, 2) := by decide +kernel
theorem dL_law_1829 : decode cL_law 1829 = .ok (.imul, 1) := by decide +kernel
theorem dL_law_1830 : decode cL_law 1830 = .ok (.iconst 4, 1) := by decide +kernel
theorem dL_law_1831 : decode cL_law 1831 = .ok (.iadd, 1) := by decide +kernel
theorem dL_law_1832 : decode cL_law 1832 = .ok (.iaload, 1) := by decide +kernel
theorem dL_law_1833 : decode cL_law 1833 = .ok (.iconst 1, 1) := by decide +kernel
theorem dL_law_1834 : decode cL_law 1834 = .ok (.iadd, 1) := by decide +kernel
theorem dL_law_1835 : decode cL_law 1835 = .ok (.goto 21, 3) := by decide +kernel
theorem dL_law_1838 : decode cL_law 1838 = .ok (.iload 38, 2) := by decide +kernel
theorem dL_law_1840 : decode cL_law 1840 = .ok (.ifCond .ne 7, 3) := by decide +kernel
theorem dL_law_1843 : decode cL_law 1843 = .ok (.iconst 0, 1) := by decide +kernel
theorem dL_law_1844 : decode cL_law 1844 = .ok (.goto 12, 3) := by decide +kernel
theorem dL_law_1847 : decode cL_law 1847 = .ok (.aload_n 3, 1) := by decide +kernel
theorem dL_law_1848 : decode cL_law 1848 = .ok (.bipush 8, 2) := by decide +kernel
theorem dL_law_1850 : decode cL_law 1850 = .ok (.iload 16, 2) := by decide +kernel
theorem dL_law_1852 : decode cL_law 1852 = .ok (.imul, 1) := by decide +kernel
theorem dL_law_1853 : decode cL_law 1853 = .ok (.iconst 4, 1) := by decide +kernel
theorem dL_law_1854 : decode cL_law 1854 = .ok (.iadd, 1) := by decide +kernel
theorem dL_law_1855 : decode cL_law 1855 = .ok (.iaload, 1) := by decide +kernel
theorem dL_law_1856 : decode cL_law 1856 = .ok (.iastore, 1) := by decide +kernel
theorem dL_law_1857 : decode cL_law 1857 = .ok (.iload 38, 2) := by decide +kernel
theorem dL_law_1859 : decode cL_law 1859 = .ok (.ifCond .le 6, 3) := by decide +kernel
theorem dL_law_1862 : decode cL_law 1862 = .ok (.goto 26, 3) := by decide +kernel
theorem dL_law_1865 : decode cL_law 1865 = .ok (.aload_n 3, 1) := by decide +kernel
theorem dL_law_1866 : decode cL_law 1866 = .ok (.bipush 8, 2) := by decide +kernel
theorem dL_law_1868 : decode cL_law 1868 = .ok (.iload 16, 2) := by decide +kernel
theorem dL_law_1870 : decode cL_law 1870 = .ok (.imul, 1) := by decide +kernel
theorem dL_law_1871 : decode cL_law 1871 = .ok (.iconst 3, 1) := by decide +kernel
theorem dL_law_1872 : decode cL_law 1872 = .ok (.iadd, 1) := by decide +kernel
theorem dL_law_1873 : decode cL_law 1873 = .ok (.iload 37, 2) := by decide +kernel
theorem dL_law_1875 : decode cL_law 1875 = .ok (.iastore, 1) := by decide +kernel
theorem dL_law_1876 : decode cL_law 1876 = .ok (.iload 16, 2) := by decide +kernel
theorem dL_law_1878 : decode cL_law 1878 = .ok (.aload_n 3, 1) := by decide +kernel
theorem dL_law_1879 : decode cL_law 1879 = .ok (.aload 4, 2) := by decide +kernel
theorem dL_law_1881 : decode cL_law 1881 = .ok (.aload_n 2, 1) := by decide +kernel
theorem dL_law_1882 : decode cL_law 1882 = .ok (.invokestatic 176, 3) := by decide +kernel
theorem dL_law_1885 : decode cL_law 1885 = .ok (.goto 9, 3) := by decide +kernel
theorem dL_law_1888 : decode cL_law 1888 = .ok (.iinc 36 1, 3) := by decide +kernel
theorem dL_law_1891 : decode cL_law 1891 = .ok (.goto (-236), 3) := by decide +kernel
theorem dL_law_1894 : decode cL_law 1894 = .ok (.goto 1394, 3) := by decide +kernel
theorem dL_law_1897 : decode cL_law 1897 = .ok (.aload_n 2, 1) := by decide +kernel
theorem dL_law_1898 : decode cL_law 1898 = .ok (.iconst 1, 1) := by decide +kernel
theorem dL_law_1899 : decode cL_law 1899 = .ok (.iaload, 1) := by decide +kernel
theorem dL_law_1900 : decode cL_law 1900 = .ok (.ifCond .ne 6, 3) := by decide +kernel
theorem dL_law_1903 : decode cL_law 1903 = .ok (.goto 1385, 3) := by decide +kernel
theorem dL_law_1906 : decode cL_law 1906 = .ok (.aload_n 3, 1) := by decide +kernel
theorem dL_law_1907 : decode cL_law 1907 = .ok (.bipush 8, 2) := by decide +kernel
theorem dL_law_1909 : decode cL_law 1909 = .ok (.iload 16, 2) := by decide +kernel
theorem dL_law_1911 : decode cL_law 1911 = .ok (.imul, 1) := by decide +kernel
theorem dL_law_1912 : decode cL_law 1912 = .ok (.bipush 6, 2) := by decide +kernel
theorem dL_law_1914 : decode cL_law 1914 = .ok (.iadd, 1) := by decide +kernel
theorem dL_law_1915 : decode cL_law 1915 = .ok (.iload 14, 2) := by decide +kernel
theorem dL_law_1917 : decode cL_law 1917 = .ok (.iload 14, 2) := by decide +kernel
theorem dL_law_1919 : decode cL_law 1919 = .ok (.ldc 180, 2) := by decide +kernel
theorem dL_law_1921 : decode cL_law 1921 = .ok (.iand, 1) := by decide +kernel
theorem dL_law_1922 : decode cL_law 1922 = .ok (.ifCond .ne 9, 3) := by decide +kernel
theorem dL_law_1925 : decode cL_law 1925 = .ok (.sipush 500, 3) := by decide +kernel
theorem dL_law_1928 : decode cL_law 1928 = .ok (.goto 6, 3) := by decide +kernel
theorem dL_law_1931 : decode cL_law 1931 = .ok (.sipush 6000, 3) := by decide +kernel
theorem dL_law_1934 : decode cL_law 1934 = .ok (.invokestatic 124, 3) := by decide +kernel
theorem dL_law_1937 : decode cL_law 1937 = .ok (.iastore, 1) := by decide +kernel
theorem dL_law_1938 : decode cL_law 1938 = .ok (.aload_n 3, 1) := by decide +kernel
theorem dL_law_1939 : decode cL_law 1939 = .ok (.bipush 8, 2) := by decide +kernel
theorem dL_law_1941 : decode cL_law 1941 = .ok (.iload 16, 2) := by decide +kernel
theorem dL_law_1943 : decode cL_law 1943 = .ok (.imul, 1) := by decide +kernel
theorem dL_law_1944 : decode cL_law 1944 = .ok (.bipush 7, 2) := by decide +kernel
theorem dL_law_1946 : decode cL_law 1946 = .ok (.iadd, 1) := by decide +kernel
theorem dL_law_1947 : decode cL_law 1947 = .ok (.iload 14, 2) := by decide +kernel
theorem dL_law_1949 : decode cL_law 1949 = .ok (.bipush 7, 2) := by decide +kernel
theorem dL_law_1951 : decode cL_law 1951 = .ok (.ishr, 1) := by decide +kernel
theorem dL_law_1952 : decode cL_law 1952 = .ok (.iconst 1, 1) := by decide +kernel
theorem dL_law_1953 : decode cL_law 1953 = .ok (.iand, 1) := by decide +kernel
theorem dL_law_1954 : decode cL_law 1954 = .ok (.iastore, 1) := by decide +kernel
theorem dL_law_1955 : decode cL_law 1955 = .ok (.aload_n 1, 1) := by decide +kernel
theorem dL_law_1956 : decode cL_law 1956 = .ok (.iload 16, 2) := by decide +kernel
theorem dL_law_1958 : decode cL_law 1958 = .ok (.aload_n 3, 1) := by decide +kernel
theorem dL_law_1959 : decode cL_law 1959 = .ok (.bipush 8, 2) := by decide +kernel
theorem dL_law_1961 : decode cL_law 1961 = .ok (.iload 16, 2) := by decide +kernel
theorem dL_law_1963 : decode cL_law 1963 = .ok (.imul, 1) := by decide +kernel
theorem dL_law_1964 : decode cL_law 1964 = .ok (.bipush 6, 2) := by decide +kernel
theorem dL_law_1966 : decode cL_law 1966 = .ok (.iadd, 1) := by decide +kernel
theorem dL_law_1967 : decode cL_law 1967 = .ok (.iaload, 1) := by decide +kernel
theorem dL_law_1968 : decode cL_law 1968 = .ok (.aload_n 3, 1) := by decide +kernel
theorem dL_law_1969 : decode cL_law 1969 = .ok (.bipush 8, 2) := by decide +kernel
theorem dL_law_1971 : decode cL_law 1971 = .ok (.iload 16, 2) := by decide +kernel
theorem dL_law_1973 : decode cL_law 1973 = .ok (.imul, 1) := by decide +kernel
theorem dL_law_1974 : decode cL_law 1974 = .ok (.bipush 7, 2) := by decide +kernel
theorem dL_law_1976 : decode cL_law 1976 = .ok (.iadd, 1) := by decide +kernel
theorem dL_law_1977 : decode cL_law 1977 = .ok (.iaload, 1) := by decide +kernel
theorem dL_law_1978 : decode cL_law 1978 = .ok (.iconst 1, 1) := by decide +kernel
theorem dL_law_1979 : decode cL_law 1979 = .ok (.if_icmp .ne 7, 3) := by decide +kernel
theorem dL_law_1982 : decode cL_law 1982 = .ok (.iconst 1, 1) := by decide +kernel
theorem dL_law_1983 : decode cL_law 1983 = .ok (.goto 4, 3) := by decide +kernel
theorem dL_law_1986 : decode cL_law 1986 = .ok (.iconst 0, 1) := by decide +kernel
theorem dL_law_1987 : decode cL_law 1987 = .ok (.invokestatic 181, 3) := by decide +kernel
theorem dL_law_1990 : decode cL_law 1990 = .ok (.ifCond .ne 7, 3) := by decide +kernel
theorem dL_law_1993 : decode cL_law 1993 = .ok (.iconst 1, 1) := by decide +kernel
theorem dL_law_1994 : decode cL_law 1994 = .ok (.goto 4, 3) := by decide +kernel
theorem dL_law_1997 : decode cL_law 1997 = .ok (.iconst 0, 1) := by decide +kernel
theorem dL_law_1998 : decode cL_law 1998 = .ok (.istore 18, 2) := by decide +kernel
theorem dL_law_2000 : decode cL_law 2000 = .ok (.goto 1288, 3) := by decide +kernel
theorem dL_law_2003 : decode cL_law 2003 = .ok (.aload_n 2, 1) := by decide +kernel
theorem dL_law_2004 : decode cL_law 2004 = .ok (.iconst 1, 1) := by decide +kernel
theorem dL_law_2005 : decode cL_law 2005 = .ok (.iaload, 1) := by decide +kernel
theorem dL_law_2006 : decode cL_law 2006 = .ok (.iconst 2, 1) := by decide +kernel
theorem dL_law_2007 : decode cL_law 2007 = .ok (.if_icmp .lt 1281, 3) := by decide +kernel
theorem dL_law_2010 : decode cL_law 2010 = .ok (.aload_n 2, 1) := by decide +kernel
theorem dL_law_2011 : decode cL_law 2011 = .ok (.iconst 4, 1) := by decide +kernel
theorem dL_law_2012 : decode cL_law 2012 = .ok (.iaload, 1) := by decide +kernel
theorem dL_law_2013 : decode cL_law 2013 = .ok (.bipush 56, 2) := by decide +kernel
theorem dL_law_2015 : decode cL_law 2015 = .ok (.if_icmp .le 6, 3) := by decide +kernel
theorem dL_law_2018 : decode cL_law 2018 = .ok (.goto 1270, 3) := by decide +kernel
theorem dL_law_2021 : decode cL_law 2021 = .ok (.iconst 1, 1) := by decide +kernel
theorem dL_law_2022 : decode cL_law 2022 = .ok (.iload 14, 2) := by decide +kernel
theorem dL_law_2024 : decode cL_law 2024 = .ok (.iload 14, 2) := by decide +kernel
theorem dL_law_2026 : decode cL_law 2026 = .ok (.ldc 180, 2) := by decide +kernel
theorem dL_law_2028 : decode cL_law 2028 = .ok (.iand, 1) := by decide +kernel
theorem dL_law_2029 : decode cL_law 2029 = .ok (.ifCond .ne 9, 3) := by decide +kernel
theorem dL_law_2032 : decode cL_law 2032 = .ok (.sipush 600, 3) := by decide +kernel
theorem dL_law_2035 : decode cL_law 2035 = .ok (.goto 6, 3) := by decide +kernel
theorem dL_law_2038 : decode cL_law 2038 = .ok (.sipush 9000, 3) := by decide +kernel
theorem dL_law_2041 : decode cL_law 2041 = .ok (.invokestatic 124, 3) := by decide +kernel
theorem dL_law_2044 : decode cL_law 2044 = .ok (.iadd, 1) := by decide +kernel
theorem dL_law_2045 : decode cL_law 2045 = .ok (.istore 36, 2) := by decide +kernel
theorem dL_law_2047 : decode cL_law 2047 = .ok (.iload 36, 2) := by decide +kernel
theorem dL_law_2049 : decode cL_law 2049 = .ok (.bipush 60, 2) := by decide +kernel
theorem dL_law_2051 : decode cL_law 2051 = .ok (.idiv, 1) := by decide +kernel
theorem dL_law_2052 : decode cL_law 2052 = .ok (.iload 36, 2) := by decide +kernel
theorem dL_law_2054 : decode cL_law 2054 = .ok (.bipush 60, 2) := by decide +kernel
theorem dL_law_2056 : decode cL_law 2056 = .ok (.irem, 1) := by decide +kernel
theorem dL_law_2057 : decode cL_law 2057 = .ok (.ifCond .ne 7, 3) := by decide +kernel
theorem dL_law_2060 : decode cL_law 2060 = .ok (.iconst 0, 1) := by decide +kernel
theorem dL_law_2061 : decode cL_law 2061 = .ok (.goto 4, 3) := by decide +kernel
theorem dL_law_2064 : decode cL_law 2064 = .ok (.iconst 1, 1) := by decide +kernel
theorem dL_law_2065 : decode cL_law 2065 = .ok (.iadd, 1) := by decide +kernel
theorem dL_law_2066 : decode cL_law 2066 = .ok (.istore 37, 2) := by decide +kernel
theorem dL_law_2068 : decode cL_law 2068 = .ok (.iload 16, 2) := by decide +kernel
theorem dL_law_2070 : decode cL_law 2070 = .ok (.iload 17, 2) := by decide +kernel
theorem dL_law_2072 : decode cL_law 2072 = .ok (.if_icmp .ne 29, 3) := by decide +kernel
theorem dL_law_2075 : decode cL_law 2075 = .ok (.aload_n 1, 1) := by decide +kernel
theorem dL_law_2076 : decode cL_law 2076 = .ok (.iload 16, 2) := by decide +kernel
theorem dL_law_2078 : decode cL_law 2078 = .ok (.iload 17, 2) := by decide +kernel
theorem dL_law_2080 : decode cL_law 2080 = .ok (.iload 36, 2) := by decide +kernel
theorem dL_law_2082 : decode cL_law 2082 = .ok (.invokestatic 184, 3) := by decide +kernel
theorem dL_law_2085 : decode cL_law 2085 = .ok (.sipush (-7200), 3) := by decide +kernel
theorem dL_law_2088 : decode cL_law 2088 = .ok (.if_icmp .ne 7, 3) := by decide +kernel
theorem dL_law_2091 : decode cL_law 2091 = .ok (.iconst 1, 1) := by decide +kernel
theorem dL_law_2092 : decode cL_law 2092 = .ok (.goto 4, 3) := by decide +kernel
theorem dL_law_2095 : decode cL_law 2095 = .ok (.iconst 0, 1) := by decide +kernel
theorem dL_law_2096 : decode cL_law 2096 = .ok (.istore 18, 2) := by decide +kernel
theorem dL_law_2098 : decode cL_law 2098 = .ok (.goto 1190, 3) := by decide +kernel
theorem dL_law_2101 : decode cL_law 2101 = .ok (.aload_n 3, 1) := by decide +kernel
theorem dL_law_2102 : decode cL_law 2102 = .ok (.bipush 8, 2) := by decide +kernel
theorem dL_law_2104 : decode cL_law 2104 = .ok (.iload 17, 2) := by decide +kernel
theorem dL_law_2106 : decode cL_law 2106 = .ok (.imul, 1) := by decide +kernel
theorem dL_law_2107 : decode cL_law 2107 = .ok (.iconst 5, 1) := by decide +kernel
theorem dL_law_2108 : decode cL_law 2108 = .ok (.iadd, 1) := by decide +kernel
theorem dL_law_2109 : decode cL_law 2109 = .ok (.iaload, 1) := by decide +kernel
theorem dL_law_2110 : decode cL_law 2110 = .ok (.istore 38, 2) := by decide +kernel
theorem dL_law_2112 : decode cL_law 2112 = .ok (.aload_n 3, 1) := by decide +kernel
theorem dL_law_2113 : decode cL_law 2113 = .ok (.bipush 8, 2) := by decide +kernel
theorem dL_law_2115 : decode cL_law 2115 = .ok (.iload 16, 2) := by decide +kernel
theorem dL_law_2117 : decode cL_law 2117 = .ok (.imul, 1) := by decide +kernel
theorem dL_law_2118 : decode cL_law 2118 = .ok (.iconst 3, 1) := by decide +kernel
theorem dL_law_2119 : decode cL_law 2119 = .ok (.iadd, 1) := by decide +kernel
theorem dL_law_2120 : decode cL_law 2120 = .ok (.iaload, 1) := by decide +kernel
theorem dL_law_2121 : decode cL_law 2121 = .ok (.aload_n 3, 1) := by decide +kernel
theorem dL_law_2122 : decode cL_law 2122 = .ok (.bipush 8, 2) := by decide +kernel
theorem dL_law_2124 : decode cL_law 2124 = .ok (.iload 16, 2) := by decide +kernel
theorem dL_law_2126 : decode cL_law 2126 = .ok (.imul, 1) := by decide +kernel
theorem dL_law_2127 : decode cL_law 2127 = .ok (.iaload, 1) := by decide +kernel
theorem dL_law_2128 : decode cL_law 2128 = .ok (.if_icmp .eq 7, 3) := by decide +kernel
theorem dL_law_2131 : decode cL_law 2131 = .ok (.iconst 1, 1) := by decide +kernel
theorem dL_law_2132 : decode cL_law 2132 = .ok (.goto 4, 3) := by decide +kernel
theorem dL_law_2135 : decode cL_law 2135 = .ok (.iconst 0, 1) := by decide +kernel
theorem dL_law_2136 : decode cL_law 2136 = .ok (.istore 39, 2) := by decide +kernel
theorem dL_law_2138 : decode cL_law 2138 = .ok (.aload_n 3, 1) := by decide +kernel
theorem dL_law_2139 : decode cL_law 2139 = .ok (.bipush 8, 2) := by decide +kernel
theorem dL_law_2141 : decode cL_law 2141 = .ok (.iload 17, 2) := by decide +kernel
theorem dL_law_2143 : decode cL_law 2143 = .ok (.imul, 1) := by decide +kernel
theorem dL_law_2144 : decode cL_law 2144 = .ok (.iconst 3, 1) := by decide +kernel
theorem dL_law_2145 : decode cL_law 2145 = .ok (.iadd, 1) := by decide +kernel
theorem dL_law_2146 : decode cL_law 2146 = .ok (.iaload, 1) := by decide +kernel
theorem dL_law_2147 : decode cL_law 2147 = .ok (.aload_n 3, 1) := by decide +kernel
theorem dL_law_2148 : decode cL_law 2148 = .ok (.bipush 8, 2) := by decide +kernel
theorem dL_law_2150 : decode cL_law 2150 = .ok (.iload 17, 2) := by decide +kernel
theorem dL_law_2152 : decode cL_law 2152 = .ok (.imul, 1) := by decide +kernel
theorem dL_law_2153 : decode cL_law 2153 = .ok (.iaload, 1) := by decide +kernel
theorem dL_law_2154 : decode cL_law 2154 = .ok (.if_icmp .eq 7, 3) := by decide +kernel
theorem dL_law_2157 : decode cL_law 2157 = .ok (.iconst 1, 1) := by decide +kernel
theorem dL_law_2158 : decode cL_law 2158 = .ok (.goto 4, 3) := by decide +kernel
theorem dL_law_2161 : decode cL_law 2161 = .ok (.iconst 0, 1) := by decide +kernel
theorem dL_law_2162 : decode cL_law 2162 = .ok (.istore 40, 2) := by decide +kernel
theorem dL_law_2164 : decode cL_law 2164 = .ok (.iload 37, 2) := by decide +kernel
theorem dL_law_2166 : decode cL_law 2166 = .ok (.aload_n 2, 1) := by decide +kernel
theorem dL_law_2167 : decode cL_law 2167 = .ok (.bipush 26, 2) := by decide +kernel
theorem dL_law_2169 : decode cL_law 2169 = .ok (.iconst 3, 1) := by decide +kernel
theorem dL_law_2170 : decode cL_law 2170 = .ok (.aload_n 3, 1) := by decide +kernel
theorem dL_law_2171 : decode cL_law 2171 = .ok (.bipush 8, 2) := by decide +kernel
theorem dL_law_2173 : decode cL_law 2173 = .ok (.iload 16, 2) := by decide +kernel
theorem dL_law_2175 : decode cL_law 2175 = .ok (.imul, 1) := by decide +kernel
theorem dL_law_2176 : decode cL_law 2176 = .ok (.iaload, 1) := by decide +kernel
theorem dL_law_2177 : decode cL_law 2177 = .ok (.imul, 1) := by decide +kernel
theorem dL_law_2178 : decode cL_law 2178 = .ok (.iadd, 1) := by decide +kernel
theorem dL_law_2179 : decode cL_law 2179 = .ok (.iload 39, 2) := by decide +kernel
theorem dL_law_2181 : decode cL_law 2181 = .ok (.ifCond .eq 7, 3) := by decide +kernel
theorem dL_law_2184 : decode cL_law 2184 = .ok (.iconst 1, 1) := by decide +kernel
theorem dL_law_2185 : decode cL_law 2185 = .ok (.goto 4, 3) := by decide +kernel
theorem dL_law_2188 : decode cL_law 2188 = .ok (.iconst 0, 1) := by decide +kernel
theorem dL_law_2189 : decode cL_law 2189 = .ok (.iadd, 1) := by decide +kernel
theorem dL_law_2190 : decode cL_law 2190 = .ok (.iaload, 1) := by decide +kernel
theorem dL_law_2191 : decode cL_law 2191 = .ok (.imul, 1) := by decide +kernel
theorem dL_law_2192 : decode cL_law 2192 = .ok (.istore 41, 2) := by decide +kernel
theorem dL_law_2194 : decode cL_law 2194 = .ok (.iload 40, 2) := by decide +kernel
theorem dL_law_2196 : decode cL_law 2196 = .ok (.ifCond .eq 23, 3) := by decide +kernel
theorem dL_law_2199 : decode cL_law 2199 = .ok (.iload 37, 2) := by decide +kernel
theorem dL_law_2201 : decode cL_law 2201 = .ok (.aload_n 2, 1) := by decide +kernel
theorem dL_law_2202 : decode cL_law 2202 = .ok (.bipush 28, 2) := by decide +kernel
theorem dL_law_2204 : decode cL_law 2204 = .ok (.iconst 3, 1) := by decide +kernel
theorem dL_law_2205 : decode cL_law 2205 = .ok (.aload_n 3, 1) := by decide +kernel
theorem dL_law_2206 : decode cL_law 2206 = .ok (.bipush 8, 2) := by decide +kernel
theorem dL_law_2208 : decode cL_law 2208 = .ok (.iload 17, 2) := by decide +kernel
theorem dL_law_2210 : decode cL_law 2210 = .ok (.imul, 1) := by decide +kernel
theorem dL_law_2211 : decode cL_law 2211 = .ok (.iaload, 1) := by decide +kernel
theorem dL_law_2212 : decode cL_law 2212 = .ok (.imul, 1) := by decide +kernel
theorem dL_law_2213 : decode cL_law 2213 = .ok (.iadd, 1) := by decide +kernel
theorem dL_law_2214 : decode cL_law 2214 = .ok (.iaload, 1) := by decide +kernel
theorem dL_law_2215 : decode cL_law 2215 = .ok (.imul, 1) := by decide +kernel
theorem dL_law_2216 : decode cL_law 2216 = .ok (.goto 4, 3) := by decide +kernel
theorem dL_law_2219 : decode cL_law 2219 = .ok (.iconst 0, 1) := by decide +kernel
theorem dL_law_2220 : decode cL_law 2220 = .ok (.istore 42, 2) := by decide +kernel
theorem dL_law_2222 : decode cL_law 2222 = .ok (.aload_n 3, 1) := by decide +kernel
theorem dL_law_2223 : decode cL_law 2223 = .ok (.bipush 8, 2) := by decide +kernel
theorem dL_law_2225 : decode cL_law 2225 = .ok (.iload 16, 2) := by decide +kernel
theorem dL_law_2227 : decode cL_law 2227 = .ok (.imul, 1) := by decide +kernel
theorem dL_law_2228 : decode cL_law 2228 = .ok (.iconst 3, 1) := by decide +kernel
theorem dL_law_2229 : decode cL_law 2229 = .ok (.iadd, 1) := by decide +kernel
theorem dL_law_2230 : decode cL_law 2230 = .ok (.iaload, 1) := by decide +kernel
theorem dL_law_2231 : decode cL_law 2231 = .ok (.iconst (-1), 1) := by decide +kernel
theorem dL_law_2232 : decode cL_law 2232 = .ok (.if_icmp .ne 7, 3) := by decide +kernel
theorem dL_law_2235 : decode cL_law 2235 = .ok (.iconst 1, 1) := by decide +kernel
theorem dL_law_2236 : decode cL_law 2236 = .ok (.goto 51, 3) := by decide +kernel
theorem dL_law_2239 : decode cL_law 2239 = .ok (.iload 38, 2) := by decide +kernel
theorem dL_law_2241 : decode cL_law 2241 = .ok (.iconst (-1), 1) := by decide +kernel
theorem dL_law_2242 : decode cL_law 2242 = .ok (.if_icmp .ne 7, 3) := by decide +kernel
theorem dL_law_2245 : decode cL_law 2245 = .ok (.iconst 2, 1) := by decide +kernel
theorem dL_law_2246 : decode cL_law 2246 = .ok (.goto 41, 3) := by decide +kernel
theorem dL_law_2249 : decode cL_law 2249 = .ok (.aload 4, 2) := by decide +kernel
theorem dL_law_2251 : decode cL_law 2251 = .ok (.bipush 6, 2) := by decide +kernel
theorem dL_law_2253 : decode cL_law 2253 = .ok (.iload 38, 2) := by decide +kernel
theorem dL_law_2255 : decode cL_law 2255 = .ok (.imul, 1) := by decide +kernel
theorem dL_law_2256 : decode cL_law 2256 = .ok (.iload 17, 2) := by decide +kernel
theorem dL_law_2258 : decode cL_law 2258 = .ok (.iadd, 1) := by decide +kernel
theorem dL_law_2259 : decode cL_law 2259 = .ok (.iaload, 1) := by decide +kernel
theorem dL_law_2260 : decode cL_law 2260 = .ok (.iconst (-1), 1) := by decide +kernel
theorem dL_law_2261 : decode cL_law 2261 = .ok (.if_icmp .ne 7, 3) := by decide +kernel
theorem dL_law_2264 : decode cL_law 2264 = .ok (.iconst 3, 1) := by decide +kernel
theorem dL_law_2265 : decode cL_law 2265 = .ok (.goto 22, 3) := by decide +kernel
theorem dL_law_2268 : decode cL_law 2268 = .ok (.aload_n 3, 1) := by decide +kernel
theorem dL_law_2269 : decode cL_law 2269 = .ok (.bipush 8, 2) := by decide +kernel
theorem dL_law_2271 : decode cL_law 2271 = .ok (.iload 17, 2) := by decide +kernel
theorem dL_law_2273 : decode cL_law 2273 = .ok (.imul, 1) := by decide +kernel
theorem dL_law_2274 : decode cL_law 2274 = .ok (.iconst 3, 1) := by decide +kernel
theorem dL_law_2275 : decode cL_law 2275 = .ok (.iadd, 1) := by decide +kernel
theorem dL_law_2276 : decode cL_law 2276 = .ok (.iaload, 1) := by decide +kernel
theorem dL_law_2277 : decode cL_law 2277 = .ok (.iload 38, 2) := by decide +kernel
theorem dL_law_2279 : decode cL_law 2279 = .ok (.if_icmp .eq 7, 3) := by decide +kernel
theorem dL_law_2282 : decode cL_law 2282 = .ok (.iconst 4, 1) := by decide +kernel
theorem dL_law_2283 : decode cL_law 2283 = .ok (.goto 4, 3) := by decide +kernel
theorem dL_law_2286 : decode cL_law 2286 = .ok (.iconst 0, 1) := by decide +kernel
theorem dL_law_2287 : decode cL_law 2287 = .ok (.istore 43, 2) := by decide +kernel
theorem dL_law_2289 : decode cL_law 2289 = .ok (.iload 43, 2) := by decide +kernel
theorem dL_law_2291 : decode cL_law 2291 = .ok (.ifCond .ne 51, 3) := by decide +kernel
theorem dL_law_2294 : decode cL_law 2294 = .ok (.iload 39, 2) := by decide +kernel
theorem dL_law_2296 : decode cL_law 2296 = .ok (.ifCond .eq 46, 3) := by decide +kernel
theorem dL_law_2299 : decode cL_law 2299 = .ok (.aload_n 3, 1) := by decide +kernel
theorem dL_law_2300 : decode cL_law 2300 = .ok (.bipush 8, 2) := by decide +kernel
theorem dL_law_2302 : decode cL_law 2302 = .ok (.iload 16, 2) := by decide +kernel
theorem dL_law_2304 : decode cL_law 2304 = .ok (.imul, 1) := by decide +kernel
theorem dL_law_2305 : decode cL_law 2305 = .ok (.bipush 7, 2) := by decide +kernel
theorem dL_law_2307 : decode cL_law 2307 = .ok (.iadd, 1) := by decide +kernel
theorem dL_law_2308 : decode cL_law 2308 = .ok (.iaload, 1) := by decide +kernel
theorem dL_law_2309 : decode cL_law 2309 = .ok (.ifCond .ne 33, 3) := by decide +kernel
theorem dL_law_2312 : decode cL_law 2312 = .ok (.iload 16, 2) := by decide +kernel
theorem dL_law_2314 : decode cL_law 2314 = .ok (.iconst 1, 1) := by decide +kernel
theorem dL_law_2315 : decode cL_law 2315 = .ok (.aload 9, 2) := by decide +kernel
theorem dL_law_2317 : decode cL_law 2317 = .ok (.aload 10, 2) := by decide +kernel
theorem dL_law_2319 : decode cL_law 2319 = .ok (.aload_n 2, 1) := by decide +kernel
theorem dL_law_2320 : decode cL_law 2320 = .ok (.invokestatic 106, 3) := by decide +kernel
theorem dL_law_2323 : decode cL_law 2323 = .ok (.iload 41, 2) := by decide +kernel
theorem dL_law_2325 : decode cL_law 2325 = .ok (.iadd, 1) := by decide +kernel
theorem dL_law_2326 : decode cL_law 2326 = .ok (.aload_n 3, 1) := by decide +kernel
theorem dL_law_2327 : decode cL_law 2327 = .ok (.bipush 8, 2) := by decide +kernel
theorem dL_law_2329 : decode cL_law 2329 = .ok (.iload 16, 2) := by decide +kernel
theorem dL_law_2331 : decode cL_law 2331 = .ok (.imul, 1) := by decide +kernel
theorem dL_law_2332 : decode cL_law 2332 = .ok (.bipush 6, 2) := by decide +kernel
theorem dL_law_2334 : decode cL_law 2334 = .ok (.iadd, 1) := by decide +kernel
theorem dL_law_2335 : decode cL_law 2335 = .ok (.iaload, 1) := by decide +kernel
theorem dL_law_2336 : decode cL_law 2336 = .ok (.if_icmp .le 6, 3) := by decide +kernel
theorem dL_law_2339 : decode cL_law 2339 = .ok (.iconst 5, 1) := by decide +kernel
theorem dL_law_2340 : decode cL_law 2340 = .ok (.istore 43, 2) := by decide +kernel
theorem dL_law_2342 : decode cL_law 2342 = .ok (.iload 43, 2) := by decide +kernel
theorem dL_law_2344 : decode cL_law 2344 = .ok (.ifCond .ne 52, 3) := by decide +kernel
theorem dL_law_2347 : decode cL_law 2347 = .ok (.iload 40, 2) := by decide +kernel
theorem dL_law_2349 : decode cL_law 2349 = .ok (.ifCond .eq 47, 3) := by decide +kernel
theorem dL_law_2352 : decode cL_law 2352 = .ok (.aload_n 3, 1) := by decide +kernel
theorem dL_law_2353 : decode cL_law 2353 = .ok (.bipush 8, 2) := by decide +kernel
theorem dL_law_2355 : decode cL_law 2355 = .ok (.iload 17, 2) := by decide +kernel
theorem dL_law_2357 : decode cL_law 2357 = .ok (.imul, 1) := by decide +kernel
theorem dL_law_2358 : decode cL_law 2358 = .ok (.bipush 7, 2) := by decide +kernel
theorem dL_law_2360 : decode cL_law 2360 = .ok (.iadd, 1) := by decide +kernel
theorem dL_law_2361 : decode cL_law 2361 = .ok (.iaload, 1) := by decide +kernel
theorem dL_law_2362 : decode cL_law 2362 = .ok (.ifCond .ne 34, 3) := by decide +kernel
theorem dL_law_2365 : decode cL_law 2365 = .ok (.iload 17, 2) := by decide +kernel
theorem dL_law_2367 : decode cL_law 2367 = .ok (.iconst 1, 1) := by decide +kernel
theorem dL_law_2368 : decode cL_law 2368 = .ok (.aload 9, 2) := by decide +kernel
theorem dL_law_2370 : decode cL_law 2370 = .ok (.aload 10, 2) := by decide +kernel
theorem dL_law_2372 : decode cL_law 2372 = .ok (.aload_n 2, 1) := by decide +kernel
theorem dL_law_2373 : decode cL_law 2373 = .ok (.invokestatic 106, 3) := by decide +kernel
theorem dL_law_2376 : decode cL_law 2376 = .ok (.iload 42, 2) := by decide +kernel
theorem dL_law_2378 : decode cL_law 2378 = .ok (.iadd, 1) := by decide +kernel
theorem dL_law_2379 : decode cL_law 2379 = .ok (.aload_n 3, 1) := by decide +kernel
theorem dL_law_2380 : decode cL_law 2380 = .ok (.bipush 8, 2) := by decide +kernel
theorem dL_law_2382 : decode cL_law 2382 = .ok (.iload 17, 2) := by decide +kernel
theorem dL_law_2384 : decode cL_law 2384 = .ok (.imul, 1) := by decide +kernel
theorem dL_law_2385 : decode cL_law 2385 = .ok (.bipush 6, 2) := by decide +kernel
theorem dL_law_2387 : decode cL_law 2387 = .ok (.iadd, 1) := by decide +kernel
theorem dL_law_2388 : decode cL_law 2388 = .ok (.iaload, 1) := by decide +kernel
theorem dL_law_2389 : decode cL_law 2389 = .ok (.if_icmp .le 7, 3) := by decide +kernel
theorem dL_law_2392 : decode cL_law 2392 = .ok (.bipush 6, 2) := by decide +kernel
theorem dL_law_2394 : decode cL_law 2394 = .ok (.istore 43, 2) := by decide +kernel
theorem dL_law_2396 : decode cL_law 2396 = .ok (.aload_n 1, 1) := by decide +kernel
theorem dL_law_2397 : decode cL_law 2397 = .ok (.iload 16, 2) := by decide +kernel
theorem dL_law_2399 : decode cL_law 2399 = .ok (.iload 17, 2) := by decide +kernel
theorem dL_law_2401 : decode cL_law 2401 = .ok (.iload 36, 2) := by decide +kernel
theorem dL_law_2403 : decode cL_law 2403 = .ok (.invokestatic 184, 3) := by decide +kernel
theorem dL_law_2406 : decode cL_law 2406 = .ok (.iload 43, 2) := by decide +kernel
theorem dL_law_2408 : decode cL_law 2408 = .ok (.if_icmp .ne 7, 3) := by decide +kernel
theorem dL_law_2411 : decode cL_law 2411 = .ok (.iconst 1, 1) := by decide +kernel
theorem dL_law_2412 : decode cL_law 2412 = .ok (.goto 4, 3) := by decide +kernel
theorem dL_law_2415 : decode cL_law 2415 = .ok (.iconst 0, 1) := by decide +kernel
theorem dL_law_2416 : decode cL_law 2416 = .ok (.istore 18, 2) := by decide +kernel
theorem dL_law_2418 : decode cL_law 2418 = .ok (.iload 43, 2) := by decide +kernel
theorem dL_law_2420 : decode cL_law 2420 = .ok (.ifCond .le 6, 3) := by decide +kernel
theorem dL_law_2423 : decode cL_law 2423 = .ok (.goto 865, 3) := by decide +kernel
theorem dL_law_2426 : decode cL_law 2426 = .ok (.iconst 0, 1) := by decide +kernel
theorem dL_law_2427 : decode cL_law 2427 = .ok (.istore 44, 2) := by decide +kernel
theorem dL_law_2429 : decode cL_law 2429 = .ok (.iload 44, 2) := by decide +kernel
theorem dL_law_2431 : decode cL_law 2431 = .ok (.iconst 2, 1) := by decide +kernel
theorem dL_law_2432 : decode cL_law 2432 = .ok (.if_icmp .ge 169, 3) := by decide +kernel
theorem dL_law_2435 : decode cL_law 2435 = .ok (.iload 44, 2) := by decide +kernel
theorem dL_law_2437 : decode cL_law 2437 = .ok (.ifCond .ne 8, 3) := by decide +kernel
theorem dL_law_2440 : decode cL_law 2440 = .ok (.iload 16, 2) := by decide +kernel
theorem dL_law_2442 : decode cL_law 2442 = .ok (.goto 5, 3) := by decide +kernel
theorem dL_law_2445 : decode cL_law 2445 = .ok (.iload 17, 2) := by decide +kernel
theorem dL_law_2447 : decode cL_law 2447 = .ok (.istore 45, 2) := by decide +kernel
theorem dL_law_2449 : decode cL_law 2449 = .ok (.iload 44, 2) := by decide +kernel
theorem dL_law_2451 : decode cL_law 2451 = .ok (.ifCond .ne 8, 3) := by decide +kernel
theorem dL_law_2454 : decode cL_law 2454 = .ok (.iload 39, 2) := by decide +kernel
theorem dL_law_2456 : decode cL_law 2456 = .ok (.goto 5, 3) := by decide +kernel
theorem dL_law_2459 : decode cL_law 2459 = .ok (.iload 40, 2) := by decide +kernel
theorem dL_law_2461 : decode cL_law 2461 = .ok (.istore 46, 2) := by decide +kernel
theorem dL_law_2463 : decode cL_law 2463 = .ok (.aload 9, 2) := by decide +kernel
theorem dL_law_2465 : decode cL_law 2465 = .ok (.aload_n 2, 1) := by decide +kernel
theorem dL_law_2466 : decode cL_law 2466 = .ok (.iconst 4, 1) := by decide +kernel
theorem dL_law_2467 : decode cL_law 2467 = .ok (.iaload, 1) := by decide +kernel
theorem dL_law_2468 : decode cL_law 2468 = .ok (.iload 45, 2) := by decide +kernel
theorem dL_law_2470 : decode cL_law 2470 = .ok (.iload 46, 2) := by decide +kernel
theorem dL_law_2472 : decode cL_law 2472 = .ok (.ifCond .eq 8, 3) := by decide +kernel
theorem dL_law_2475 : decode cL_law 2475 = .ok (.bipush 8, 2) := by decide +kernel
theorem dL_law_2477 : decode cL_law 2477 = .ok (.goto 4, 3) := by decide +kernel
theorem dL_law_2480 : decode cL_law 2480 = .ok (.iconst 0, 1) := by decide +kernel
theorem dL_law_2481 : decode cL_law 2481 = .ok (.ior, 1) := by decide +kernel
theorem dL_law_2482 : decode cL_law 2482 = .ok (.iload 44, 2) := by decide +kernel
theorem dL_law_2484 : decode cL_law 2484 = .ok (.ifCond .ne 8, 3) := by decide +kernel
theorem dL_law_2487 : decode cL_law 2487 = .ok (.iload 41, 2) := by decide +kernel
theorem dL_law_2489 : decode cL_law 2489 = .ok (.goto 5, 3) := by decide +kernel
theorem dL_law_2492 : decode cL_law 2492 = .ok (.iload 42, 2) := by decide +kernel
theorem dL_law_2494 : decode cL_law 2494 = .ok (.iconst 4, 1) := by decide +kernel
theorem dL_law_2495 : decode cL_law 2495 = .ok (.ishl, 1) := by decide +kernel
theorem dL_law_2496 : decode cL_law 2496 = .ok (.ior, 1) := by decide +kernel
theorem dL_law_2497 : decode cL_law 2497 = .ok (.iastore, 1) := by decide +kernel
theorem dL_law_2498 : decode cL_law 2498 = .ok (.aload 10, 2) := by decide +kernel
theorem dL_law_2500 : decode cL_law 2500 = .ok (.aload_n 2, 1) := by decide +kernel
theorem dL_law_2501 : decode cL_law 2501 = .ok (.iconst 4, 1) := by decide +kernel
theorem dL_law_2502 : decode cL_law 2502 = .ok (.dup2, 1) := by decide +kernel
theorem dL_law_2503 : decode cL_law 2503 = .ok (.iaload, 1) := by decide +kernel
theorem dL_law_2504 : decode cL_law 2504 = .ok (.dup_x2, 1) := by decide +kernel
theorem dL_law_2505 : decode cL_law 2505 = .ok (.iconst 1, 1) := by decide +kernel
theorem dL_law_2506 : decode cL_law 2506 = .ok (.iadd, 1) := by decide +kernel
theorem dL_law_2507 : decode cL_law 2507 = .ok (.iastore, 1) := by decide +kernel
theorem dL_law_2508 : decode cL_law 2508 = .ok (.aload_n 2, 1) := by decide +kernel
theorem dL_law_2509 : decode cL_law 2509 = .ok (.iconst 0, 1) := by decide +kernel
theorem dL_law_2510 : decode cL_law 2510 = .ok (.iaload, 1) := by decide +kernel
theorem dL_law_2511 : decode cL_law 2511 = .ok (.iastore, 1) := by decide +kernel
theorem dL_law_2512 : decode cL_law 2512 = .ok (.iload 46, 2) := by decide +kernel
theorem dL_law_2514 : decode cL_law 2514 = .ok (.ifCond .ne 6, 3) := by decide +kernel
theorem dL_law_2517 : decode cL_law 2517 = .ok (.goto 78, 3) := by decide +kernel
theorem dL_law_2520 : decode cL_law 2520 = .ok (.aload 6, 2) := by decide +kernel
theorem dL_law_2522 : decode cL_law 2522 = .ok (.aload_n 2, 1) := by decide +kernel
theorem dL_law_2523 : decode cL_law 2523 = .ok (.iconst 3, 1) := by decide +kernel
theorem dL_law_2524 : decode cL_law 2524 = .ok (.iaload, 1) := by decide +kernel
theorem dL_law_2525 : decode cL_law 2525 = .ok (.aload_n 3, 1) := by decide +kernel
theorem dL_law_2526 : decode cL_law 2526 = .ok (.bipush 8, 2) := by decide +kernel
theorem dL_law_2528 : decode cL_law 2528 = .ok (.iload 45, 2) := by decide +kernel
theorem dL_law_2530 : decode cL_law 2530 = .ok (.imul, 1) := by decide +kernel
theorem dL_law_2531 : decode cL_law 2531 = .ok (.iconst 3, 1) := by decide +kernel
theorem dL_law_2532 : decode cL_law 2532 = .ok (.iadd, 1) := by decide +kernel
theorem dL_law_2533 : decode cL_law 2533 = .ok (.iaload, 1) := by decide +kernel
theorem dL_law_2534 : decode cL_law 2534 = .ok (.aload_n 3, 1) := by decide +kernel
theorem dL_law_2535 : decode cL_law 2535 = .ok (.bipush 8, 2) := by decide +kernel
theorem dL_law_2537 : decode cL_law 2537 = .ok (.iload 45, 2) := by decide +kernel
theorem dL_law_2539 : decode cL_law 2539 = .ok (.imul, 1) := by decide +kernel
theorem dL_law_2540 : decode cL_law 2540 = .ok (.iaload, 1) := by decide +kernel
theorem dL_law_2541 : decode cL_law 2541 = .ok (.iconst 3, 1) := by decide +kernel
theorem dL_law_2542 : decode cL_law 2542 = .ok (.ishl, 1) := by decide +kernel
theorem dL_law_2543 : decode cL_law 2543 = .ok (.ior, 1) := by decide +kernel
theorem dL_law_2544 : decode cL_law 2544 = .ok (.aload_n 3, 1) := by decide +kernel
theorem dL_law_2545 : decode cL_law 2545 = .ok (.bipush 8, 2) := by decide +kernel
theorem dL_law_2547 : decode cL_law 2547 = .ok (.iload 45, 2) := by decide +kernel
theorem dL_law_2549 : decode cL_law 2549 = .ok (.imul, 1) := by decide +kernel
theorem dL_law_2550 : decode cL_law 2550 = .ok (.iaload, 1) := by decide +kernel
theorem dL_law_2551 : decode cL_law 2551 = .ok (.aload_n 3, 1) := by decide +kernel
theorem dL_law_2552 : decode cL_law 2552 = .ok (.bipush 8, 2) := by decide +kernel
theorem dL_law_2554 : decode cL_law 2554 = .ok (.iload 45, 2) := by decide +kernel
theorem dL_law_2556 : decode cL_law 2556 = .ok (.imul, 1) := by decide +kernel
theorem dL_law_2557 : decode cL_law 2557 = .ok (.iconst 3, 1) := by decide +kernel
theorem dL_law_2558 : decode cL_law 2558 = .ok (.iadd, 1) := by decide +kernel
theorem dL_law_2559 : decode cL_law 2559 = .ok (.iaload, 1) := by decide +kernel
theorem dL_law_2560 : decode cL_law 2560 = .ok (.aload 5, 2) := by decide +kernel
theorem dL_law_2562 : decode cL_law 2562 = .ok (.aload_n 2, 1) := by decide +kernel
theorem dL_law_2563 : decode cL_law 2563 = .ok (.invokestatic 101, 3) := by decide +kernel
theorem dL_law_2566 : decode cL_law 2566 = .ok (.iconst 1, 1) := by decide +kernel
theorem dL_law_2567 : decode cL_law 2567 = .ok (.iadd, 1) := by decide +kernel
theorem dL_law_2568 : decode cL_law 2568 = .ok (.bipush 13, 2) := by decide +kernel
theorem dL_law_2570 : decode cL_law 2570 = .ok (.ishl, 1) := by decide +kernel
theorem dL_law_2571 : decode cL_law 2571 = .ok (.ior, 1) := by decide +kernel
theorem dL_law_2572 : decode cL_law 2572 = .ok (.iastore, 1) := by decide +kernel
theorem dL_law_2573 : decode cL_law 2573 = .ok (.aload 7, 2) := by decide +kernel
theorem dL_law_2575 : decode cL_law 2575 = .ok (.aload_n 2, 1) := by decide +kernel
theorem dL_law_2576 : decode cL_law 2576 = .ok (.iconst 3, 1) := by decide +kernel
theorem dL_law_2577 : decode cL_law 2577 = .ok (.iaload, 1) := by decide +kernel
theorem dL_law_2578 : decode cL_law 2578 = .ok (.iload 37, 2) := by decide +kernel
theorem dL_law_2580 : decode cL_law 2580 = .ok (.iastore, 1) := by decide +kernel
theorem dL_law_2581 : decode cL_law 2581 = .ok (.aload 8, 2) := by decide +kernel
theorem dL_law_2583 : decode cL_law 2583 = .ok (.aload_n 2, 1) := by decide +kernel
theorem dL_law_2584 : decode cL_law 2584 = .ok (.iconst 3, 1) := by decide +kernel
theorem dL_law_2585 : decode cL_law 2585 = .ok (.dup2, 1) := by decide +kernel
theorem dL_law_2586 : decode cL_law 2586 = .ok (.iaload, 1) := by decide +kernel
theorem dL_law_2587 : decode cL_law 2587 = .ok (.dup_x2, 1) := by decide +kernel
theorem dL_law_2588 : decode cL_law 2588 = .ok (.iconst 1, 1) := by decide +kernel
theorem dL_law_2589 : decode cL_law 2589 = .ok (.iadd, 1) := by decide +kernel
theorem dL_law_2590 : decode cL_law 2590 = .ok (.iastore, 1) := by decide +kernel
theorem dL_law_2591 : decode cL_law 2591 = .ok (.aload_n 2, 1) := by decide +kernel
theorem dL_law_2592 : decode cL_law 2592 = .ok (.iconst 0, 1) := by decide +kernel
theorem dL_law_2593 : decode cL_law 2593 = .ok (.iaload, 1) := by decide +kernel
theorem dL_law_2594 : decode cL_law 2594 = .ok (.iastore, 1) := by decide +kernel
theorem dL_law_2595 : decode cL_law 2595 = .ok (.iinc 44 1, 3) := by decide +kernel
theorem dL_law_2598 : decode cL_law 2598 = .ok (.goto (-169), 3) := by decide +kernel
theorem dL_law_2601 : decode cL_law 2601 = .ok (.goto 687, 3) := by decide +kernel
theorem dL_law_2604 : decode cL_law 2604 = .ok (.iload 14, 2) := by decide +kernel
theorem dL_law_2606 : decode cL_law 2606 = .ok (.iconst 3, 1) := by decide +kernel
theorem dL_law_2607 : decode cL_law 2607 = .ok (.invokestatic 124, 3) := by decide +kernel
theorem dL_law_2610 : decode cL_law 2610 = .ok (.istore 44, 2) := by decide +kernel
theorem dL_law_2612 : decode cL_law 2612 = .ok (.iconst 0, 1) := by decide +kernel
theorem dL_law_2613 : decode cL_law 2613 = .ok (.istore 45, 2) := by decide +kernel
theorem dL_law_2615 : decode cL_law 2615 = .ok (.iload 45, 2) := by decide +kernel
theorem dL_law_2617 : decode cL_law 2617 = .ok (.bipush 6, 2) := by decide +kernel
theorem dL_law_2619 : decode cL_law 2619 = .ok (.if_icmp .ge 155, 3) := by decide +kernel
theorem dL_law_2622 : decode cL_law 2622 = .ok (.iload 45, 2) := by decide +kernel
theorem dL_law_2624 : decode cL_law 2624 = .ok (.iload 44, 2) := by decide +kernel
theorem dL_law_2626 : decode cL_law 2626 = .ok (.iconst 3, 1) := by decide +kernel
theorem dL_law_2627 : decode cL_law 2627 = .ok (.ishl, 1) := by decide +kernel
theorem dL_law_2628 : decode cL_law 2628 = .ok (.ior, 1) := by decide +kernel
theorem dL_law_2629 : decode cL_law 2629 = .ok (.istore 46, 2) := by decide +kernel
theorem dL_law_2631 : decode cL_law 2631 = .ok (.aload 11, 2) := by decide +kernel
theorem dL_law_2633 : decode cL_law 2633 = .ok (.iload 46, 2) := by decide +kernel
theorem dL_law_2635 : decode cL_law 2635 = .ok (.iaload, 1) := by decide +kernel
theorem dL_law_2636 : decode cL_law 2636 = .ok (.bipush 31, 2) := by decide +kernel
theorem dL_law_2638 : decode cL_law 2638 = .ok (.iand, 1) := by decide +kernel
theorem dL_law_2639 : decode cL_law 2639 = .ok (.istore 47, 2) := by decide +kernel
theorem dL_law_2641 : decode cL_law 2641 = .ok (.iconst 0, 1) := by decide +kernel
theorem dL_law_2642 : decode cL_law 2642 = .ok (.istore 48, 2) := by decide +kernel
theorem dL_law_2644 : decode cL_law 2644 = .ok (.iconst 0, 1) := by decide +kernel
theorem dL_law_2645 : decode cL_law 2645 = .ok (.istore 49, 2) := by decide +kernel
theorem dL_law_2647 : decode cL_law 2647 = .ok (.iload 49, 2) := by decide +kernel
theorem dL_law_2649 : decode cL_law 2649 = .ok (.aload_n 2, 1) := by decide +kernel
theorem dL_law_2650 : decode cL_law 2650 = .ok (.iconst 3, 1) := by decide +kernel
theorem dL_law_2651 : decode cL_law 2651 = .ok (.iaload, 1) := by decide +kernel
theorem dL_law_2652 : decode cL_law 2652 = .ok (.if_icmp .ge 64, 3) := by decide +kernel
theorem dL_law_2655 : decode cL_law 2655 = .ok (.aload 6, 2) := by decide +kernel
theorem dL_law_2657 : decode cL_law 2657 = .ok (.iload 49, 2) := by decide +kernel
theorem dL_law_2659 : decode cL_law 2659 = .ok (.iaload, 1) := by decide +kernel
theorem dL_law_2660 : decode cL_law 2660 = .ok (.bipush 63, 2) := by decide +kernel
theorem dL_law_2662 : decode cL_law 2662 = .ok (.iand, 1) := by decide +kernel
theorem dL_law_2663 : decode cL_law 2663 = .ok (.iload 46, 2) := by decide +kernel
theorem dL_law_2665 : decode cL_law 2665 = .ok (.if_icmp .ne 45, 3) := by decide +kernel
theorem dL_law_2668 : decode cL_law 2668 = .ok (.aload 6, 2) := by decide +kernel
theorem dL_law_2670 : decode cL_law 2670 = .ok (.iload 49, 2) := by decide +kernel
theorem dL_law_2672 : decode cL_law 2672 = .ok (.iaload, 1) := by decide +kernel
theorem dL_law_2673 : decode cL_law 2673 = .ok (.bipush 6, 2) := by decide +kernel
theorem dL_law_2675 : decode cL_law 2675 = .ok (.ishr, 1) := by decide +kernel
theorem dL_law_2676 : decode cL_law 2676 = .ok (.iconst 3, 1) := by decide +kernel
theorem dL_law_2677 : decode cL_law 2677 = .ok (.iand, 1) := by decide +kernel
theorem dL_law_2678 : decode cL_law 2678 = .ok (.ifCond .ne 32, 3) := by decide +kernel
theorem dL_law_2681 : decode cL_law 2681 = .ok (.iload 47, 2) := by decide +kernel
theorem dL_law_2683 : decode cL_law 2683 = .ok (.bipush 20, 2) := by decide +kernel
theorem dL_law_2685 : decode cL_law 2685 = .ok (.if_icmp .ne 6, 3) := by decide +kernel
theorem dL_law_2688 : decode cL_law 2688 = .ok (.goto 22, 3) := by decide +kernel
theorem dL_law_2691 : decode cL_law 2691 = .ok (.iconst 1, 1) := by decide +kernel
theorem dL_law_2692 : decode cL_law 2692 = .ok (.istore 48, 2) := by decide +kernel
theorem dL_law_2694 : decode cL_law 2694 = .ok (.aload 6, 2) := by decide +kernel
theorem dL_law_2696 : decode cL_law 2696 = .ok (.iload 49, 2) := by decide +kernel
theorem dL_law_2698 : decode cL_law 2698 = .ok (.dup2, 1) := by decide +kernel
theorem dL_law_2699 : decode cL_law 2699 = .ok (.iaload, 1) := by decide +kernel
theorem dL_law_2700 : decode cL_law 2700 = .ok (.bipush 64, 2) := by decide +kernel
theorem dL_law_2702 : decode cL_law 2702 = .ok (.iload 47, 2) := by decide +kernel
theorem dL_law_2704 : decode cL_law 2704 = .ok (.bipush 8, 2) := by decide +kernel
theorem dL_law_2706 : decode cL_law 2706 = .ok (.ishl, 1) := by decide +kernel
theorem dL_law_2707 : decode cL_law 2707 = .ok (.ior, 1) := by decide +kernel
theorem dL_law_2708 : decode cL_law 2708 = .ok (.ior, 1) := by decide +kernel
theorem dL_law_2709 : decode cL_law 2709 = .ok (.iastore, 1) := by decide +kernel
theorem dL_law_2710 : decode cL_law 2710 = .ok (.iinc 49 1, 3) := by decide +kernel
theorem dL_law_2713 : decode cL_law 2713 = .ok (.goto (-66), 3) := by decide +kernel
theorem dL_law_2716 : decode cL_law 2716 = .ok (.iload 18, 2) := by decide +kernel
theorem dL_law_2718 : decode cL_law 2718 = .ok (.aload_n 1, 1) := by decide +kernel
theorem dL_law_2719 : decode cL_law 2719 = .ok (.iload 45, 2) := by decide +kernel
theorem dL_law_2721 : decode cL_law 2721 = .ok (.iload 44, 2) := by decide +kernel
theorem dL_law_2723 : decode cL_law 2723 = .ok (.invokestatic 186, 3) := by decide +kernel
theorem dL_law_2726 : decode cL_law 2726 = .ok (.iload 48, 2) := by decide +kernel
theorem dL_law_2728 : decode cL_law 2728 = .ok (.ifCond .eq 8, 3) := by decide +kernel
theorem dL_law_2731 : decode cL_law 2731 = .ok (.iload 47, 2) := by decide +kernel
theorem dL_law_2733 : decode cL_law 2733 = .ok (.goto 6, 3) := by decide +kernel
theorem dL_law_2736 : decode cL_law 2736 = .ok (.sipush (-7300), 3) := by decide +kernel
theorem dL_law_2739 : decode cL_law 2739 = .ok (.if_icmp .ne 7, 3) := by decide +kernel
theorem dL_law_2742 : decode cL_law 2742 = .ok (.iconst 1, 1) := by decide +kernel
theorem dL_law_2743 : decode cL_law 2743 = .ok (.goto 4, 3) := by decide +kernel
theorem dL_law_2746 : decode cL_law 2746 = .ok (.iconst 0, 1) := by decide +kernel
theorem dL_law_2747 : decode cL_law 2747 = .ok (.iand, 1) := by decide +kernel
theorem dL_law_2748 : decode cL_law 2748 = .ok (.istore 18, 2) := by decide +kernel
theorem dL_law_2750 : decode cL_law 2750 = .ok (.aload 11, 2) := by decide +kernel
theorem dL_law_2752 : decode cL_law 2752 = .ok (.iload 46, 2) := by decide +kernel
theorem dL_law_2754 : decode cL_law 2754 = .ok (.dup2, 1) := by decide +kernel
theorem dL_law_2755 : decode cL_law 2755 = .ok (.iaload, 1) := by decide +kernel
theorem dL_law_2756 : decode cL_law 2756 = .ok (.iload 48, 2) := by decide +kernel
theorem dL_law_2758 : decode cL_law 2758 = .ok (.ifCond .eq 7, 3) := by decide +kernel
theorem dL_law_2761 : decode cL_law 2761 = .ok (.iconst 1, 1) := by decide +kernel
theorem dL_law_2762 : decode cL_law 2762 = .ok (.goto 4, 3) := by decide +kernel
theorem dL_law_2765 : decode cL_law 2765 = .ok (.iconst 0, 1) := by decide +kernel
theorem dL_law_2766 : decode cL_law 2766 = .ok (.iadd, 1) := by decide +kernel
theorem dL_law_2767 : decode cL_law 2767 = .ok (.iastore, 1) := by decide +kernel
theorem dL_law_2768 : decode cL_law 2768 = .ok (.iinc 45 1, 3) := by decide +kernel
theorem dL_law_2771 : decode cL_law 2771 = .ok (.goto (-156), 3) := by decide +kernel
theorem dL_law_2774 : decode cL_law 2774 = .ok (.goto 514, 3) := by decide +kernel
theorem dL_law_2777 : decode cL_law 2777 = .ok (.iload 14, 2) := by decide +kernel
theorem dL_law_2779 : decode cL_law 2779 = .ok (.iconst 3, 1) := by decide +kernel
theorem dL_law_2780 : decode cL_law 2780 = .ok (.invokestatic 124, 3) := by decide +kernel
theorem dL_law_2783 : decode cL_law 2783 = .ok (.istore 45, 2) := by decide +kernel
theorem dL_law_2785 : decode cL_law 2785 = .ok (.iload 15, 2) := by decide +kernel
theorem dL_law_2787 : decode cL_law 2787 = .ok (.iload 45, 2) := by decide +kernel
theorem dL_law_2789 : decode cL_law 2789 = .ok (.iconst 3, 1) := by decide +kernel
theorem dL_law_2790 : decode cL_law 2790 = .ok (.ishl, 1) := by decide +kernel
theorem dL_law_2791 : decode cL_law 2791 = .ok (.ior, 1) := by decide +kernel
theorem dL_law_2792 : decode cL_law 2792 = .ok (.istore 46, 2) := by decide +kernel
theorem dL_law_2794 : decode cL_law 2794 = .ok (.aload 11, 2) := by decide +kernel
theorem dL_law_2796 : decode cL_law 2796 = .ok (.iload 46, 2) := by decide +kernel
theorem dL_law_2798 : decode cL_law 2798 = .ok (.iaload, 1) := by decide +kernel
theorem dL_law_2799 : decode cL_law 2799 = .ok (.bipush 31, 2) := by decide +kernel
theorem dL_law_2801 : decode cL_law 2801 = .ok (.iand, 1) := by decide +kernel
theorem dL_law_2802 : decode cL_law 2802 = .ok (.istore 47, 2) := by decide +kernel
theorem dL_law_2804 : decode cL_law 2804 = .ok (.aload_n 1, 1) := by decide +kernel
theorem dL_law_2805 : decode cL_law 2805 = .ok (.iload 15, 2) := by decide +kernel
theorem dL_law_2807 : decode cL_law 2807 = .ok (.iload 45, 2) := by decide +kernel
theorem dL_law_2809 : decode cL_law 2809 = .ok (.iload 47, 2) := by decide +kernel
theorem dL_law_2811 : decode cL_law 2811 = .ok (.invokestatic 188, 3) := by decide +kernel
theorem dL_law_2814 : decode cL_law 2814 = .ok (.sipush (-7100), 3) := by decide +kernel
theorem dL_law_2817 : decode cL_law 2817 = .ok (.if_icmp .ne 7, 3) := by decide +kernel
theorem dL_law_2820 : decode cL_law 2820 = .ok (.iconst 1, 1) := by decide +kernel
theorem dL_law_2821 : decode cL_law 2821 = .ok (.goto 4, 3) := by decide +kernel
theorem dL_law_2824 : decode cL_law 2824 = .ok (.iconst 0, 1) := by decide +kernel
theorem dL_law_2825 : decode cL_law 2825 = .ok (.istore 18, 2) := by decide +kernel
theorem dL_law_2827 : decode cL_law 2827 = .ok (.iconst 0, 1) := by decide +kernel
theorem dL_law_2828 : decode cL_law 2828 = .ok (.istore 48, 2) := by decide +kernel
theorem dL_law_2830 : decode cL_law 2830 = .ok (.iload 48, 2) := by decide +kernel
theorem dL_law_2832 : decode cL_law 2832 = .ok (.iconst 2, 1) := by decide +kernel
theorem dL_law_2833 : decode cL_law 2833 = .ok (.if_icmp .ge 243, 3) := by decide +kernel
theorem dL_law_2836 : decode cL_law 2836 = .ok (.iload 47, 2) := by decide +kernel
theorem dL_law_2838 : decode cL_law 2838 = .ok (.ifCond .le 238, 3) := by decide +kernel
theorem dL_law_2841 : decode cL_law 2841 = .ok (.iload 14, 2) := by decide +kernel
theorem dL_law_2843 : decode cL_law 2843 = .ok (.iconst 4, 1) := by decide +kernel
theorem dL_law_2844 : decode cL_law 2844 = .ok (.iconst 3, 1) := by decide +kernel
theorem dL_law_2845 : decode cL_law 2845 = .ok (.iload 48, 2) := by decide +kernel
theorem dL_law_2847 : decode cL_law 2847 = .ok (.imul, 1) := by decide +kernel
theorem dL_law_2848 : decode cL_law 2848 = .ok (.iadd, 1) := by decide +kernel
theorem dL_law_2849 : decode cL_law 2849 = .ok (.ishr, 1) := by decide +kernel
theorem dL_law_2850 : decode cL_law 2850 = .ok (.iload 47, 2) := by decide +kernel
theorem dL_law_2852 : decode cL_law 2852 = .ok (.invokestatic 124, 3) := by decide +kernel
theorem dL_law_2855 : decode cL_law 2855 = .ok (.istore 49, 2) := by decide +kernel
theorem dL_law_2857 : decode cL_law 2857 = .ok (.aload 11, 2) := by decide +kernel
theorem dL_law_2859 : decode cL_law 2859 = .ok (.iload 46, 2) := by decide +kernel
theorem dL_law_2861 : decode cL_law 2861 = .ok (.iaload, 1) := by decide +kernel
theorem dL_law_2862 : decode cL_law 2862 = .ok (.iconst 5, 1) := by decide +kernel
theorem dL_law_2863 : decode cL_law 2863 = .ok (.ishr, 1) := by decide +kernel
theorem dL_law_2864 : decode cL_law 2864 = .ok (.istore 50, 2) := by decide +kernel
theorem dL_law_2866 : decode cL_law 2866 = .ok (.iload 49, 2) := by decide +kernel
theorem dL_law_2868 : decode cL_law 2868 = .ok (.iload 50, 2) := by decide +kernel
theorem dL_law_2870 : decode cL_law 2870 = .ok (.if_icmp .eq 42, 3) := by decide +kernel
theorem dL_law_2873 : decode cL_law 2873 = .ok (.iload 18, 2) := by decide +kernel
theorem dL_law_2875 : decode cL_law 2875 = .ok (.aload_n 1, 1) := by decide +kernel
theorem dL_law_2876 : decode cL_law 2876 = .ok (.iload 15, 2) := by decide +kernel
theorem dL_law_2878 : decode cL_law 2878 = .ok (.iload 45, 2) := by decide +kernel
theorem dL_law_2880 : decode cL_law 2880 = .ok (.iload 49, 2) := by decide +kernel
theorem dL_law_2882 : decode cL_law 2882 = .ok (.invokestatic 188, 3) := by decide +kernel
theorem dL_law_2885 : decode cL_law 2885 = .ok (.iload 49, 2) := by decide +kernel
theorem dL_law_2887 : decode cL_law 2887 = .ok (.iload 50, 2) := by decide +kernel
theorem dL_law_2889 : decode cL_law 2889 = .ok (.if_icmp .ge 7, 3) := by decide +kernel
theorem dL_law_2892 : decode cL_law 2892 = .ok (.iconst (-1), 1) := by decide +kernel
theorem dL_law_2893 : decode cL_law 2893 = .ok (.goto 5, 3) := by decide +kernel
theorem dL_law_2896 : decode cL_law 2896 = .ok (.bipush (-2), 2) := by decide +kernel
theorem dL_law_2898 : decode cL_law 2898 = .ok (.if_icmp .ne 7, 3) := by decide +kernel
theorem dL_law_2901 : decode cL_law 2901 = .ok (.iconst 1, 1) := by decide +kernel
theorem dL_law_2902 : decode cL_law 2902 = .ok (.goto 4, 3) := by decide +kernel
theorem dL_law_2905 : decode cL_law 2905 = .ok (.iconst 0, 1) := by decide +kernel
theorem dL_law_2906 : decode cL_law 2906 = .ok (.iand, 1) := by decide +kernel
theorem dL_law_2907 : decode cL_law 2907 = .ok (.istore 18, 2) := by decide +kernel
theorem dL_law_2909 : decode cL_law 2909 = .ok (.goto 161, 3) := by decide +kernel
theorem dL_law_2912 : decode cL_law 2912 = .ok (.iconst 0, 1) := by decide +kernel
theorem dL_law_2913 : decode cL_law 2913 = .ok (.istore 51, 2) := by decide +kernel
theorem dL_law_2915 : decode cL_law 2915 = .ok (.iconst 0, 1) := by decide +kernel
theorem dL_law_2916 : decode cL_law 2916 = .ok (.istore 52, 2) := by decide +kernel
theorem dL_law_2918 : decode cL_law 2918 = .ok (.iload 52, 2) := by decide +kernel
theorem dL_law_2920 : decode cL_law 2920 = .ok (.aload_n 2, 1) := by decide +kernel
theorem dL_law_2921 : decode cL_law 2921 = .ok (.iconst 3, 1) := by decide +kernel
theorem dL_law_2922 : decode cL_law 2922 = .ok (.iaload, 1) := by decide +kernel
theorem dL_law_2923 : decode cL_law 2923 = .ok (.if_icmp .ge 112, 3) := by decide +kernel
theorem dL_law_2926 : decode cL_law 2926 = .ok (.aload 6, 2) := by decide +kernel
theorem dL_law_2928 : decode cL_law 2928 = .ok (.iload 52, 2) := by decide +kernel
theorem dL_law_2930 : decode cL_law 2930 = .ok (.iaload, 1) := by decide +kernel
theorem dL_law_2931 : decode cL_law 2931 = .ok (.bipush 63, 2) := by decide +kernel
theorem dL_law_2933 : decode cL_law 2933 = .ok (.iand, 1) := by decide +kernel
theorem dL_law_2934 : decode cL_law 2934 = .ok (.iload 46, 2) := by decide +kernel
theorem dL_law_2936 : decode cL_law 2936 = .ok (.if_icmp .ne 93, 3) := by decide +kernel
theorem dL_law_2939 : decode cL_law 2939 = .ok (.aload 6, 2) := by decide +kernel
theorem dL_law_2941 : decode cL_law 2941 = .ok (.iload 52, 2) := by decide +kernel
theorem dL_law_2943 : decode cL_law 2943 = .ok (.iaload, 1) := by decide +kernel
theorem dL_law_2944 : decode cL_law 2944 = .ok (.bipush 6, 2) := by decide +kernel
theorem dL_law_2946 : decode cL_law 2946 = .ok (.ishr, 1) := by decide +kernel
theorem dL_law_2947 : decode cL_law 2947 = .ok (.iconst 3, 1) := by decide +kernel
theorem dL_law_2948 : decode cL_law 2948 = .ok (.iand, 1) := by decide +kernel
theorem dL_law_2949 : decode cL_law 2949 = .ok (.iconst 1, 1) := by decide +kernel
theorem dL_law_2950 : decode cL_law 2950 = .ok (.if_icmp .ne 79, 3) := by decide +kernel
theorem dL_law_2953 : decode cL_law 2953 = .ok (.aload 6, 2) := by decide +kernel
theorem dL_law_2955 : decode cL_law 2955 = .ok (.iload 52, 2) := by decide +kernel
theorem dL_law_2957 : decode cL_law 2957 = .ok (.iaload, 1) := by decide +kernel
theorem dL_law_2958 : decode cL_law 2958 = .ok (.bipush 8, 2) := by decide +kernel
theorem dL_law_2960 : decode cL_law 2960 = .ok (.ishr, 1) := by decide +kernel
theorem dL_law_2961 : decode cL_law 2961 = .ok (.bipush 31, 2) := by decide +kernel
theorem dL_law_2963 : decode cL_law 2963 = .ok (.iand, 1) := by decide +kernel
theorem dL_law_2964 : decode cL_law 2964 = .ok (.iload 49, 2) := by decide +kernel
theorem dL_law_2966 : decode cL_law 2966 = .ok (.if_icmp .eq 6, 3) := by decide +kernel
theorem dL_law_2969 : decode cL_law 2969 = .ok (.goto 60, 3) := by decide +kernel
theorem dL_law_2972 : decode cL_law 2972 = .ok (.aload 8, 2) := by decide +kernel
theorem dL_law_2974 : decode cL_law 2974 = .ok (.iload 52, 2) := by decide +kernel
theorem dL_law_2976 : decode cL_law 2976 = .ok (.iaload, 1) := by decide +kernel
theorem dL_law_2977 : decode cL_law 2977 = .ok (.ldc 105, 2) := by decide +kernel
theorem dL_law_2979 : decode cL_law 2979 = .ok (.iadd, 1) := by decide +kernel
theorem dL_law_2980 : decode cL_law 2980 = .ok (.aload_n 2, 1) := by decide +kernel
theorem dL_law_2981 : decode cL_law 2981 = .ok (.iconst 0, 1) := by decide +kernel
theorem dL_law_2982 : decode cL_law 2982 = .ok (.iaload, 1) := by decide +kernel
theorem dL_law_2983 : decode cL_law 2983 = .ok (.if_icmp .gt 7, 3) := by decide +kernel
theorem dL_law_2986 : decode cL_law 2986 = .ok (.iconst 1, 1) := by decide +kernel
theorem dL_law_2987 : decode cL_law 2987 = .ok (.goto 4, 3) := by decide +kernel
theorem dL_law_2990 : decode cL_law 2990 = .ok (.iconst 0, 1) := by decide +kernel
theorem dL_law_2991 : decode cL_law 2991 = .ok (.istore 53, 2) := by decide +kernel
theorem dL_law_2993 : decode cL_law 2993 = .ok (.iload 51, 2) := by decide +kernel
theorem dL_law_2995 : decode cL_law 2995 = .ok (.iload 53, 2) := by decide +kernel
theorem dL_law_2997 : decode cL_law 2997 = .ok (.ifCond .eq 7, 3) := by decide +kernel
theorem dL_law_3000 : decode cL_law 3000 = .ok (.iconst 1, 1) := by decide +kernel
theorem dL_law_3001 : decode cL_law 3001 = .ok (.goto 4, 3) := by decide +kernel
theorem dL_law_3004 : decode cL_law 3004 = .ok (.iconst 0, 1) := by decide +kernel
theorem dL_law_3005 : decode cL_law 3005 = .ok (.iadd, 1) := by decide +kernel
theorem dL_law_3006 : decode cL_law 3006 = .ok (.istore 51, 2) := by decide +kernel
theorem dL_law_3008 : decode cL_law 3008 = .ok (.aload 6, 2) := by decide +kernel
theorem dL_law_3010 : decode cL_law 3010 = .ok (.iload 52, 2) := by decide +kernel
theorem dL_law_3012 : decode cL_law 3012 = .ok (.dup2, 1) := by decide +kernel
theorem dL_law_3013 : decode cL_law 3013 = .ok (.iaload, 1) := by decide +kernel
theorem dL_law_3014 : decode cL_law 3014 = .ok (.iload 53, 2) := by decide +kernel
theorem dL_law_3016 : decode cL_law 3016 = .ok (.ifCond .eq 9, 3) := by decide +kernel
theorem dL_law_3019 : decode cL_law 3019 = .ok (.sipush 128, 3) := by decide +kernel
theorem dL_law_3022 : decode cL_law 3022 = .ok (.goto 5, 3) := by decide +kernel
theorem dL_law_3025 : decode cL_law 3025 = .ok (.bipush 64, 2) := by decide +kernel
theorem dL_law_3027 : decode cL_law 3027 = .ok (.iadd, 1) := by decide +kernel
theorem dL_law_3028 : decode cL_law 3028 = .ok (.iastore, 1) := by decide +kernel
theorem dL_law_3029 : decode cL_law 3029 = .ok (.iinc 52 1, 3) := by decide +kernel
theorem dL_law_3032 : decode cL_law 3032 = .ok (.goto (-114), 3) := by decide +kernel
theorem dL_law_3035 : decode cL_law 3035 = .ok (.iload 18, 2) := by decide +kernel
theorem dL_law_3037 : decode cL_law 3037 = .ok (.aload_n 1, 1) := by decide +kernel
theorem dL_law_3038 : decode cL_law 3038 = .ok (.iload 15, 2) := by decide +kernel
theorem dL_law_3040 : decode cL_law 3040 = .ok (.iload 45, 2) := by decide +kernel
theorem dL_law_3042 : decode cL_law 3042 = .ok (.iload 49, 2) := by decide +kernel
theorem dL_law_3044 : decode cL_law 3044 = .ok (.invokestatic 188, 3) := by decide +kernel
theorem dL_law_3047 : decode cL_law 3047 = .ok (.iload 51, 2) := by decide +kernel
theorem dL_law_3049 : decode cL_law 3049 = .ok (.if_icmp .ne 7, 3) := by decide +kernel
theorem dL_law_3052 : decode cL_law 3052 = .ok (.iconst 1, 1) := by decide +kernel
theorem dL_law_3053 : decode cL_law 3053 = .ok (.goto 4, 3) := by decide +kernel
theorem dL_law_3056 : decode cL_law 3056 = .ok (.iconst 0, 1) := by decide +kernel
theorem dL_law_3057 : decode cL_law 3057 = .ok (.iand, 1) := by decide +kernel
theorem dL_law_3058 : decode cL_law 3058 = .ok (.istore 18, 2) := by decide +kernel
theorem dL_law_3060 : decode cL_law 3060 = .ok (.aload 11, 2) := by decide +kernel
theorem dL_law_3062 : decode cL_law 3062 = .ok (.iload 46, 2) := by decide +kernel
theorem dL_law_3064 : decode cL_law 3064 = .ok (.dup2, 1) := by decide +kernel
theorem dL_law_3065 : decode cL_law 3065 = .ok (.iaload, 1) := by decide +kernel
theorem dL_law_3066 : decode cL_law 3066 = .ok (.bipush 32, 2) := by decide +kernel
theorem dL_law_3068 : decode cL_law 3068 = .ok (.iadd, 1) := by decide +kernel
theorem dL_law_3069 : decode cL_law 3069 = .ok (.iastore, 1) := by decide +kernel
theorem dL_law_3070 : decode cL_law 3070 = .ok (.iinc 48 1, 3) := by decide +kernel
theorem dL_law_3073 : decode cL_law 3073 = .ok (.goto (-243), 3) := by decide +kernel
theorem dL_law_3076 : decode cL_law 3076 = .ok (.goto 212, 3) := by decide +kernel
theorem dL_law_3079 : decode cL_law 3079 = .ok (.iload 14, 2) := by decide +kernel
theorem dL_law_3081 : decode cL_law 3081 = .ok (.iconst 3, 1) := by decide +kernel
theorem dL_law_3082 : decode cL_law 3082 = .ok (.ishr, 1) := by decide +kernel
theorem dL_law_3083 : decode cL_law 3083 = .ok (.bipush 7, 2) := by decide +kernel
theorem dL_law_3085 : decode cL_law 3085 = .ok (.iand, 1) := by decide +kernel
theorem dL_law_3086 : decode cL_law 3086 = .ok (.istore 48, 2) := by decide +kernel
theorem dL_law_3088 : decode cL_law 3088 = .ok (.iconst 1, 1) := by decide +kernel
theorem dL_law_3089 : decode cL_law 3089 = .ok (.iload 14, 2) := by decide +kernel
theorem dL_law_3091 : decode cL_law 3091 = .ok (.bipush 6, 2) := by decide +kernel
theorem dL_law_3093 : decode cL_law 3093 = .ok (.ishr, 1) := by decide +kernel
theorem dL_law_3094 : decode cL_law 3094 = .ok (.iload 48, 2) := by decide +kernel
theorem dL_law_3096 : decode cL_law 3096 = .ok (.iconst 4, 1) := by decide +kernel
theorem dL_law_3097 : decode cL_law 3097 = .ok (.if_icmp .ge 8, 3) := by decide +kernel
theorem dL_law_3100 : decode cL_law 3100 = .ok (.bipush 70, 2) := by decide +kernel
theorem dL_law_3102 : decode cL_law 3102 = .ok (.goto 19, 3) := by decide +kernel
theorem dL_law_3105 : decode cL_law 3105 = .ok (.iload 48, 2) := by decide +kernel
theorem dL_law_3107 : decode cL_law 3107 = .ok (.bipush 7, 2) := by decide +kernel
theorem dL_law_3109 : decode cL_law 3109 = .ok (.if_icmp .ge 9, 3) := by decide +kernel
theorem dL_law_3112 : decode cL_law 3112 = .ok (.sipush 400, 3) := by decide +kernel
theorem dL_law_3115 : decode cL_law 3115 = .ok (.goto 6, 3) := by decide +kernel
theorem dL_law_3118 : decode cL_law 3118 = .ok (.sipush 30000, 3) := by decide +kernel
theorem dL_law_3121 : decode cL_law 3121 = .ok (.invokestatic 124, 3) := by decide +kernel
theorem dL_law_3124 : decode cL_law 3124 = .ok (.iadd, 1) := by decide +kernel
theorem dL_law_3125 : decode cL_law 3125 = .ok (.istore 49, 2) := by decide +kernel
theorem dL_law_3127 : decode cL_law 3127 = .ok (.aload_n 2, 1) := by decide +kernel
theorem dL_law_3128 : decode cL_law 3128 = .ok (.iconst 0, 1) := by decide +kernel
theorem dL_law_3129 : decode cL_law 3129 = .ok (.iaload, 1) := by decide +kernel
theorem dL_law_3130 : decode cL_law 3130 = .ok (.iload 49, 2) := by decide +kernel
theorem dL_law_3132 : decode cL_law 3132 = .ok (.iadd, 1) := by decide +kernel
theorem dL_law_3133 : decode cL_law 3133 = .ok (.ldc 190, 2) := by decide +kernel
theorem dL_law_3135 : decode cL_law 3135 = .ok (.if_icmp .le 6, 3) := by decide +kernel
theorem dL_law_3138 : decode cL_law 3138 = .ok (.goto 150, 3) := by decide +kernel
theorem dL_law_3141 : decode cL_law 3141 = .ok (.aload_n 2, 1) := by decide +kernel
theorem dL_law_3142 : decode cL_law 3142 = .ok (.iconst 0, 1) := by decide +kernel
theorem dL_law_3143 : decode cL_law 3143 = .ok (.iaload, 1) := by decide +kernel
theorem dL_law_3144 : decode cL_law 3144 = .ok (.iload 49, 2) := by decide +kernel
theorem dL_law_3146 : decode cL_law 3146 = .ok (.iadd, 1) := by decide +kernel
theorem dL_law_3147 : decode cL_law 3147 = .ok (.istore 50, 2) := by decide +kernel
theorem dL_law_3149 : decode cL_law 3149 = .ok (.aload_n 2, 1) := by decide +kernel
theorem dL_law_3150 : decode cL_law 3150 = .ok (.iconst 0, 1) := by decide +kernel
theorem dL_law_3151 : decode cL_law 3151 = .ok (.iaload, 1) := by decide +kernel
theorem dL_law_3152 : decode cL_law 3152 = .ok (.bipush 60, 2) := by decide +kernel
theorem dL_law_3154 : decode cL_law 3154 = .ok (.idiv, 1) := by decide +kernel
theorem dL_law_3155 : decode cL_law 3155 = .ok (.bipush 60, 2) := by decide +kernel
theorem dL_law_3157 : decode cL_law 3157 = .ok (.imul, 1) := by decide +kernel
theorem dL_law_3158 : decode cL_law 3158 = .ok (.bipush 60, 2) := by decide +kernel
theorem dL_law_3160 : decode cL_law 3160 = .ok (.iadd, 1) := by decide +kernel
theorem dL_law_3161 : decode cL_law 3161 = .ok (.istore 51, 2) := by decide +kernel
theorem dL_law_3163 : decode cL_law 3163 = .ok (.iload 51, 2) := by decide +kernel
theorem dL_law_3165 : decode cL_law 3165 = .ok (.iload 50, 2) := by decide +kernel
theorem dL_law_3167 : decode cL_law 3167 = .ok (.if_icmp .gt 98, 3) := by decide +kernel
theorem dL_law_3170 : decode cL_law 3170 = .ok (.aload_n 2, 1) := by decide +kernel
theorem dL_law_3171 : decode cL_law 3171 = .ok (.iconst 0, 1) := by decide +kernel
theorem dL_law_3172 : decode cL_law 3172 = .ok (.iload 51, 2) := by decide +kernel
theorem dL_law_3174 : decode cL_law 3174 = .ok (.iastore, 1) := by decide +kernel
theorem dL_law_3175 : decode cL_law 3175 = .ok (.iconst 0, 1) := by decide +kernel
theorem dL_law_3176 : decode cL_law 3176 = .ok (.istore 52, 2) := by decide +kernel
theorem dL_law_3178 : decode cL_law 3178 = .ok (.iload 52, 2) := by decide +kernel
theorem dL_law_3180 : decode cL_law 3180 = .ok (.aload_n 2, 1) := by decide +kernel
theorem dL_law_3181 : decode cL_law 3181 = .ok (.iconst 1, 1) := by decide +kernel
theorem dL_law_3182 : decode cL_law 3182 = .ok (.iaload, 1) := by decide +kernel
theorem dL_law_3183 : decode cL_law 3183 = .ok (.if_icmp .ge 31, 3) := by decide +kernel
theorem dL_law_3186 : decode cL_law 3186 = .ok (.aload_n 3, 1) := by decide +kernel
theorem dL_law_3187 : decode cL_law 3187 = .ok (.bipush 8, 2) := by decide +kernel
theorem dL_law_3189 : decode cL_law 3189 = .ok (.iload 52, 2) := by decide +kernel
theorem dL_law_3191 : decode cL_law 3191 = .ok (.imul, 1) := by decide +kernel
theorem dL_law_3192 : decode cL_law 3192 = .ok (.iconst 3, 1) := by decide +kernel
theorem dL_law_3193 : decode cL_law 3193 = .ok (.iadd, 1) := by decide +kernel
theorem dL_law_3194 : decode cL_law 3194 = .ok (.iaload, 1) := by decide +kernel
theorem dL_law_3195 : decode cL_law 3195 = .ok (.iconst (-1), 1) := by decide +kernel
theorem dL_law_3196 : decode cL_law 3196 = .ok (.if_icmp .eq 12, 3) := by decide +kernel
theorem dL_law_3199 : decode cL_law 3199 = .ok (.iload 52, 2) := by decide +kernel
theorem dL_law_3201 : decode cL_law 3201 = .ok (.aload_n 3, 1) := by decide +kernel
theorem dL_law_3202 : decode cL_law 3202 = .ok (.aload 4, 2) := by decide +kernel
theorem dL_law_3204 : decode cL_law 3204 = .ok (.aload_n 2, 1) := by decide +kernel
theorem dL_law_3205 : decode cL_law 3205 = .ok (.invokestatic 176, 3) := by decide +kernel
theorem dL_law_3208 : decode cL_law 3208 = .ok (.iinc 52 1, 3) := by decide +kernel
theorem dL_law_3211 : decode cL_law 3211 = .ok (.goto (-33), 3) := by decide +kernel
theorem dL_law_3214 : decode cL_law 3214 = .ok (.iconst 0, 1) := by decide +kernel
theorem dL_law_3215 : decode cL_law 3215 = .ok (.istore 52, 2) := by decide +kernel
theorem dL_law_3217 : decode cL_law 3217 = .ok (.iload 52, 2) := by decide +kernel
theorem dL_law_3219 : decode cL_law 3219 = .ok (.bipush 36, 2) := by decide +kernel
theorem dL_law_3221 : decode cL_law 3221 = .ok (.if_icmp .ge 38, 3) := by decide +kernel
theorem dL_law_3224 : decode cL_law 3224 = .ok (.aload 4, 2) := by decide +kernel
theorem dL_law_3226 : decode cL_law 3226 = .ok (.iload 52, 2) := by decide +kernel
theorem dL_law_3228 : decode cL_law 3228 = .ok (.iaload, 1) := by decide +kernel
theorem dL_law_3229 : decode cL_law 3229 = .ok (.iconst (-1), 1) := by decide +kernel
theorem dL_law_3230 : decode cL_law 3230 = .ok (.if_icmp .eq 23, 3) := by decide +kernel
theorem dL_law_3233 : decode cL_law 3233 = .ok (.aload 4, 2) := by decide +kernel
theorem dL_law_3235 : decode cL_law 3235 = .ok (.iload 52, 2) := by decide +kernel
theorem dL_law_3237 : decode cL_law 3237 = .ok (.iaload, 1) := by decide +kernel
theorem dL_law_3238 : decode cL_law 3238 = .ok (.sipush 180, 3) := by decide +kernel
theorem dL_law_3241 : decode cL_law 3241 = .ok (.iadd, 1) := by decide +kernel
theorem dL_law_3242 : decode cL_law 3242 = .ok (.iload 51, 2) := by decide +kernel
theorem dL_law_3244 : decode cL_law 3244 = .ok (.if_icmp .gt 9, 3) := by decide +kernel
theorem dL_law_3247 : decode cL_law 3247 = .ok (.aload 4, 2) := by decide +kernel
theorem dL_law_3249 : decode cL_law 3249 = .ok (.iload 52, 2) := by decide +kernel
theorem dL_law_3251 : decode cL_law 3251 = .ok (.iconst (-1), 1) := by decide +kernel
theorem dL_law_3252 : decode cL_law 3252 = .ok (.iastore, 1) := by decide +kernel
theorem dL_law_3253 : decode cL_law 3253 = .ok (.iinc 52 1, 3) := by decide +kernel
theorem dL_law_3256 : decode cL_law 3256 = .ok (.goto (-39), 3) := by decide +kernel
theorem dL_law_3259 : decode cL_law 3259 = .ok (.iinc 51 60, 3) := by decide +kernel
theorem dL_law_3262 : decode cL_law 3262 = .ok (.goto (-99), 3) := by decide +kernel
theorem dL_law_3265 : decode cL_law 3265 = .ok (.aload_n 2, 1) := by decide +kernel
theorem dL_law_3266 : decode cL_law 3266 = .ok (.iconst 0, 1) := by decide +kernel
theorem dL_law_3267 : decode cL_law 3267 = .ok (.iload 50, 2) := by decide +kernel
theorem dL_law_3269 : decode cL_law 3269 = .ok (.iastore, 1) := by decide +kernel
theorem dL_law_3270 : decode cL_law 3270 = .ok (.aload_n 1, 1) := by decide +kernel
theorem dL_law_3271 : decode cL_law 3271 = .ok (.iload 49, 2) := by decide +kernel
theorem dL_law_3273 : decode cL_law 3273 = .ok (.invokestatic 191, 3) := by decide +kernel
theorem dL_law_3276 : decode cL_law 3276 = .ok (.iload 50, 2) := by decide +kernel
theorem dL_law_3278 : decode cL_law 3278 = .ok (.if_icmp .ne 7, 3) := by decide +kernel
theorem dL_law_3281 : decode cL_law 3281 = .ok (.iconst 1, 1) := by decide +kernel
theorem dL_law_3282 : decode cL_law 3282 = .ok (.goto 4, 3) := by decide +kernel
theorem dL_law_3285 : decode cL_law 3285 = .ok (.iconst 0, 1) := by decide +kernel
theorem dL_law_3286 : decode cL_law 3286 = .ok (.istore 18, 2) := by decide +kernel
theorem dL_law_3288 : decode cL_law 3288 = .ok (.iload 18, 2) := by decide +kernel
theorem dL_law_3290 : decode cL_law 3290 = .ok (.ifCond .eq 31, 3) := by decide +kernel
theorem dL_law_3293 : decode cL_law 3293 = .ok (.aload_n 1, 1) := by decide +kernel
theorem dL_law_3294 : decode cL_law 3294 = .ok (.iload 13, 2) := by decide +kernel
theorem dL_law_3296 : decode cL_law 3296 = .ok (.iload 14, 2) := by decide +kernel
theorem dL_law_3298 : decode cL_law 3298 = .ok (.iconst 2, 1) := by decide +kernel
theorem dL_law_3299 : decode cL_law 3299 = .ok (.ishr, 1) := by decide +kernel
theorem dL_law_3300 : decode cL_law 3300 = .ok (.ixor, 1) := by decide +kernel
theorem dL_law_3301 : decode cL_law 3301 = .ok (.aload_n 3, 1) := by decide +kernel
theorem dL_law_3302 : decode cL_law 3302 = .ok (.aload 4, 2) := by decide +kernel
theorem dL_law_3304 : decode cL_law 3304 = .ok (.aload 5, 2) := by decide +kernel
theorem dL_law_3306 : decode cL_law 3306 = .ok (.aload 6, 2) := by decide +kernel
theorem dL_law_3308 : decode cL_law 3308 = .ok (.aload 7, 2) := by decide +kernel
theorem dL_law_3310 : decode cL_law 3310 = .ok (.aload 9, 2) := by decide +kernel
theorem dL_law_3312 : decode cL_law 3312 = .ok (.aload 10, 2) := by decide +kernel
theorem dL_law_3314 : decode cL_law 3314 = .ok (.aload_n 2, 1) := by decide +kernel
theorem dL_law_3315 : decode cL_law 3315 = .ok (.invokestatic 193, 3) := by decide +kernel
theorem dL_law_3318 : decode cL_law 3318 = .ok (.ifCond .ne 5, 3) := by decide +kernel
theorem dL_law_3321 : decode cL_law 3321 = .ok (.iconst 0, 1) := by decide +kernel
theorem dL_law_3322 : decode cL_law 3322 = .ok (.ireturn, 1) := by decide +kernel
theorem dL_law_3323 : decode cL_law 3323 = .ok (.iinc 12 1, 3) := by decide +kernel
theorem dL_law_3326 : decode cL_law 3326 = .ok (.goto (-3178), 3) := by decide +kernel
theorem dL_law_3329 : decode cL_law 3329 = .ok (.aload_n 1, 1) := by decide +kernel
theorem dL_law_3330 : decode cL_law 3330 = .ok (.bipush 6, 2) := by decide +kernel
theorem dL_law_3332 : decode cL_law 3332 = .ok (.iconst 0, 1) := by decide +kernel
theorem dL_law_3333 : decode cL_law 3333 = .ok (.iconst 0, 1) := by decide +kernel
theorem dL_law_3334 : decode cL_law 3334 = .ok (.invokestatic 184, 3) := by decide +kernel
theorem dL_law_3337 : decode cL_law 3337 = .ok (.sipush (-7100), 3) := by decide +kernel
theorem dL_law_3340 : decode cL_law 3340 = .ok (.if_icmp .ne 20, 3) := by decide +kernel
theorem dL_law_3343 : decode cL_law 3343 = .ok (.aload_n 1, 1) := by decide +kernel
theorem dL_law_3344 : decode cL_law 3344 = .ok (.bipush 8, 2) := by decide +kernel
theorem dL_law_3346 : decode cL_law 3346 = .ok (.iconst 0, 1) := by decide +kernel
theorem dL_law_3347 : decode cL_law 3347 = .ok (.invokestatic 144, 3) := by decide +kernel
theorem dL_law_3350 : decode cL_law 3350 = .ok (.sipush (-7100), 3) := by decide +kernel
theorem dL_law_3353 : decode cL_law 3353 = .ok (.if_icmp .ne 7, 3) := by decide +kernel
theorem dL_law_3356 : decode cL_law 3356 = .ok (.iconst 1, 1) := by decide +kernel
theorem dL_law_3357 : decode cL_law 3357 = .ok (.goto 4, 3) := by decide +kernel
theorem dL_law_3360 : decode cL_law 3360 = .ok (.iconst 0, 1) := by decide +kernel
theorem dL_law_3361 : decode cL_law 3361 = .ok (.ireturn, 1) := by decide +kernel
