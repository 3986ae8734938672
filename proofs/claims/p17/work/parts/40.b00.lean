theorem dL_at_0 : decode cL_at 0 = .ok (.aload_n 2, 1) := by decide +kernel
theorem dL_at_1 : decode cL_at 1 = .ok (.iconst 0, 1) := by decide +kernel
theorem dL_at_2 : decode cL_at 2 = .ok (.aload_n 0, 1) := by decide +kernel
theorem dL_at_3 : decode cL_at 3 = .ok (.iload_n 1, 1) := by decide +kernel
theorem dL_at_4 : decode cL_at 4 = .ok (.invokevirtual 27, 3) := by decide +kernel
theorem dL_at_7 : decode cL_at 7 = .ok (.i2l, 1) := by decide +kernel
theorem dL_at_8 : decode cL_at 8 = .ok (.lastore, 1) := by decide +kernel
theorem dL_at_9 : decode cL_at 9 = .ok (.goto 6, 3) := by decide +kernel
theorem dL_at_12 : decode cL_at 12 = .ok (.astore_n 3, 1) := by decide +kernel
theorem dL_at_13 : decode cL_at 13 = .ok (.iconst 1, 1) := by decide +kernel
theorem dL_at_14 : decode cL_at 14 = .ok (.ireturn, 1) := by decide +kernel
theorem dL_at_15 : decode cL_at 15 = .ok (.iconst 0, 1) := by decide +kernel
theorem dL_at_16 : decode cL_at 16 = .ok (.ireturn, 1) := by decide +kernel
theorem dL_come_0 : decode cL_come 0 = .ok (.aload_n 2, 1) := by decide +kernel
theorem dL_come_1 : decode cL_come 1 = .ok (.iconst 0, 1) := by decide +kernel
theorem dL_come_2 : decode cL_come 2 = .ok (.aload_n 0, 1) := by decide +kernel
theorem dL_come_3 : decode cL_come 3 = .ok (.iload_n 1, 1) := by decide +kernel
theorem dL_come_4 : decode cL_come 4 = .ok (.invokevirtual 65, 3) := by decide +kernel
theorem dL_come_7 : decode cL_come 7 = .ok (.i2l, 1) := by decide +kernel
theorem dL_come_8 : decode cL_come 8 = .ok (.lastore, 1) := by decide +kernel
theorem dL_come_9 : decode cL_come 9 = .ok (.goto 6, 3) := by decide +kernel
theorem dL_come_12 : decode cL_come 12 = .ok (.astore_n 3, 1) := by decide +kernel
theorem dL_come_13 : decode cL_come 13 = .ok (.iconst 1, 1) := by decide +kernel
theorem dL_come_14 : decode cL_come 14 = .ok (.ireturn, 1) := by decide +kernel
theorem dL_come_15 : decode cL_come 15 = .ok (.iconst 0, 1) := by decide +kernel
theorem dL_come_16 : decode cL_come 16 = .ok (.ireturn, 1) := by decide +kernel
theorem dL_count_0 : decode cL_count 0 = .ok (.aload 4, 2) := by decide +kernel
theorem dL_count_2 : decode cL_count 2 = .ok (.iconst 0, 1) := by decide +kernel
theorem dL_count_3 : decode cL_count 3 = .ok (.aload_n 0, 1) := by decide +kernel
theorem dL_count_4 : decode cL_count 4 = .ok (.iload_n 1, 1) := by decide +kernel
theorem dL_count_5 : decode cL_count 5 = .ok (.lload_n 2, 1) := by decide +kernel
theorem dL_count_6 : decode cL_count 6 = .ok (.invokevirtual 61, 3) := by decide +kernel
theorem dL_count_9 : decode cL_count 9 = .ok (.lastore, 1) := by decide +kernel
theorem dL_count_10 : decode cL_count 10 = .ok (.goto 11, 3) := by decide +kernel
theorem dL_count_13 : decode cL_count 13 = .ok (.astore 5, 2) := by decide +kernel
theorem dL_count_15 : decode cL_count 15 = .ok (.iconst 1, 1) := by decide +kernel
theorem dL_count_16 : decode cL_count 16 = .ok (.ireturn, 1) := by decide +kernel
theorem dL_count_17 : decode cL_count 17 = .ok (.astore 5, 2) := by decide +kernel
theorem dL_count_19 : decode cL_count 19 = .ok (.iconst 2, 1) := by decide +kernel
theorem dL_count_20 : decode cL_count 20 = .ok (.ireturn, 1) := by decide +kernel
theorem dL_count_21 : decode cL_count 21 = .ok (.iconst 0, 1) := by decide +kernel
theorem dL_count_22 : decode cL_count 22 = .ok (.ireturn, 1) := by decide +kernel
theorem dL_ended_0 : decode cL_ended 0 = .ok (.aload_n 2, 1) := by decide +kernel
theorem dL_ended_1 : decode cL_ended 1 = .ok (.iconst 0, 1) := by decide +kernel
theorem dL_ended_2 : decode cL_ended 2 = .ok (.aload_n 0, 1) := by decide +kernel
theorem dL_ended_3 : decode cL_ended 3 = .ok (.iload_n 1, 1) := by decide +kernel
theorem dL_ended_4 : decode cL_ended 4 = .ok (.invokevirtual 90, 3) := by decide +kernel
theorem dL_ended_7 : decode cL_ended 7 = .ok (.i2l, 1) := by decide +kernel
theorem dL_ended_8 : decode cL_ended 8 = .ok (.lastore, 1) := by decide +kernel
theorem dL_ended_9 : decode cL_ended 9 = .ok (.goto 6, 3) := by decide +kernel
theorem dL_ended_12 : decode cL_ended 12 = .ok (.astore_n 3, 1) := by decide +kernel
theorem dL_ended_13 : decode cL_ended 13 = .ok (.iconst 1, 1) := by decide +kernel
theorem dL_ended_14 : decode cL_ended 14 = .ok (.ireturn, 1) := by decide +kernel
theorem dL_ended_15 : decode cL_ended 15 = .ok (.iconst 0, 1) := by decide +kernel
theorem dL_ended_16 : decode cL_ended 16 = .ok (.ireturn, 1) := by decide +kernel
theorem dL_keep_0 : decode cL_keep 0 = .ok (.aload_n 0, 1) := by decide +kernel
theorem dL_keep_1 : decode cL_keep 1 = .ok (.iload_n 1, 1) := by decide +kernel
theorem dL_keep_2 : decode cL_keep 2 = .ok (.invokevirtual 15, 3) := by decide +kernel
theorem dL_keep_5 : decode cL_keep 5 = .ok (.goto 6, 3) := by decide +kernel
theorem dL_keep_8 : decode cL_keep 8 = .ok (.astore_n 2, 1) := by decide +kernel
theorem dL_keep_9 : decode cL_keep 9 = .ok (.iconst 1, 1) := by decide +kernel
theorem dL_keep_10 : decode cL_keep 10 = .ok (.ireturn, 1) := by decide +kernel
theorem dL_keep_11 : decode cL_keep 11 = .ok (.iconst 0, 1) := by decide +kernel
theorem dL_keep_12 : decode cL_keep 12 = .ok (.ireturn, 1) := by decide +kernel
theorem dL_log_0 : decode cL_log 0 = .ok (.aload_n 3, 1) := by decide +kernel
theorem dL_log_1 : decode cL_log 1 = .ok (.iconst 0, 1) := by decide +kernel
theorem dL_log_2 : decode cL_log 2 = .ok (.aload_n 0, 1) := by decide +kernel
theorem dL_log_3 : decode cL_log 3 = .ok (.iload_n 1, 1) := by decide +kernel
theorem dL_log_4 : decode cL_log 4 = .ok (.iload_n 2, 1) := by decide +kernel
theorem dL_log_5 : decode cL_log 5 = .ok (.invokevirtual 87, 3) := by decide +kernel
theorem dL_log_8 : decode cL_log 8 = .ok (.i2l, 1) := by decide +kernel
theorem dL_log_9 : decode cL_log 9 = .ok (.lastore, 1) := by decide +kernel
theorem dL_log_10 : decode cL_log 10 = .ok (.goto 7, 3) := by decide +kernel
theorem dL_log_13 : decode cL_log 13 = .ok (.astore 4, 2) := by decide +kernel
theorem dL_log_15 : decode cL_log 15 = .ok (.iconst 1, 1) := by decide +kernel
theorem dL_log_16 : decode cL_log 16 = .ok (.ireturn, 1) := by decide +kernel
theorem dL_log_17 : decode cL_log 17 = .ok (.iconst 0, 1) := by decide +kernel
theorem dL_log_18 : decode cL_log 18 = .ok (.ireturn, 1) := by decide +kernel
theorem dL_make_0 : decode cL_make 0 = .ok (.aload 7, 2) := by decide +kernel
theorem dL_make_2 : decode cL_make 2 = .ok (.iconst 0, 1) := by decide +kernel
theorem dL_make_3 : decode cL_make 3 = .ok (.aload_n 0, 1) := by decide +kernel
theorem dL_make_4 : decode cL_make 4 = .ok (.iload_n 1, 1) := by decide +kernel
theorem dL_make_5 : decode cL_make 5 = .ok (.iload_n 2, 1) := by decide +kernel
theorem dL_make_6 : decode cL_make 6 = .ok (.iload_n 3, 1) := by decide +kernel
theorem dL_make_7 : decode cL_make 7 = .ok (.iload 4, 2) := by decide +kernel
theorem dL_make_9 : decode cL_make 9 = .ok (.iload 5, 2) := by decide +kernel
theorem dL_make_11 : decode cL_make 11 = .ok (.iload 6, 2) := by decide +kernel
theorem dL_make_13 : decode cL_make 13 = .ok (.invokevirtual 31, 3) := by decide +kernel
theorem dL_make_16 : decode cL_make 16 = .ok (.i2l, 1) := by decide +kernel
theorem dL_make_17 : decode cL_make 17 = .ok (.lastore, 1) := by decide +kernel
theorem dL_make_18 : decode cL_make 18 = .ok (.goto 7, 3) := by decide +kernel
theorem dL_make_21 : decode cL_make 21 = .ok (.astore 8, 2) := by decide +kernel
theorem dL_make_23 : decode cL_make 23 = .ok (.iconst 1, 1) := by decide +kernel
theorem dL_make_24 : decode cL_make 24 = .ok (.ireturn, 1) := by decide +kernel
theorem dL_make_25 : decode cL_make 25 = .ok (.iconst 0, 1) := by decide +kernel
theorem dL_make_26 : decode cL_make 26 = .ok (.ireturn, 1) := by decide +kernel
theorem dL_meaning_0 : decode cL_meaning 0 = .ok (.aload_n 2, 1) := by decide +kernel
theorem dL_meaning_1 : decode cL_meaning 1 = .ok (.iconst 0, 1) := by decide +kernel
theorem dL_meaning_2 : decode cL_meaning 2 = .ok (.aload_n 0, 1) := by decide +kernel
theorem dL_meaning_3 : decode cL_meaning 3 = .ok (.iload_n 1, 1) := by decide +kernel
theorem dL_meaning_4 : decode cL_meaning 4 = .ok (.invokevirtual 68, 3) := by decide +kernel
theorem dL_meaning_7 : decode cL_meaning 7 = .ok (.i2l, 1) := by decide +kernel
theorem dL_meaning_8 : decode cL_meaning 8 = .ok (.lastore, 1) := by decide +kernel
theorem dL_meaning_9 : decode cL_meaning 9 = .ok (.goto 6, 3) := by decide +kernel
theorem dL_meaning_12 : decode cL_meaning 12 = .ok (.astore_n 3, 1) := by decide +kernel
theorem dL_meaning_13 : decode cL_meaning 13 = .ok (.iconst 1, 1) := by decide +kernel
theorem dL_meaning_14 : decode cL_meaning 14 = .ok (.ireturn, 1) := by decide +kernel
theorem dL_meaning_15 : decode cL_meaning 15 = .ok (.iconst 0, 1) := by decide +kernel
theorem dL_meaning_16 : decode cL_meaning 16 = .ok (.ireturn, 1) := by decide +kernel
theorem dL_meant_0 : decode cL_meant 0 = .ok (.aload_n 0, 1) := by decide +kernel
theorem dL_meant_1 : decode cL_meant 1 = .ok (.iload_n 1, 1) := by decide +kernel
theorem dL_meant_2 : decode cL_meant 2 = .ok (.iload_n 2, 1) := by decide +kernel
theorem dL_meant_3 : decode cL_meant 3 = .ok (.iload_n 3, 1) := by decide +kernel
theorem dL_meant_4 : decode cL_meant 4 = .ok (.invokevirtual 46, 3) := by decide +kernel
theorem dL_meant_7 : decode cL_meant 7 = .ok (.goto 7, 3) := by decide +kernel
theorem dL_meant_10 : decode cL_meant 10 = .ok (.astore 4, 2) := by decide +kernel
theorem dL_meant_12 : decode cL_meant 12 = .ok (.iconst 1, 1) := by decide +kernel
theorem dL_meant_13 : decode cL_meant 13 = .ok (.ireturn, 1) := by decide +kernel
theorem dL_meant_14 : decode cL_meant 14 = .ok (.iconst 0, 1) := by decide +kernel
theorem dL_meant_15 : decode cL_meant 15 = .ok (.ireturn, 1) := by decide +kernel
theorem dL_peer_0 : decode cL_peer 0 = .ok (.aload_n 3, 1) := by decide +kernel
theorem dL_peer_1 : decode cL_peer 1 = .ok (.iconst 0, 1) := by decide +kernel
theorem dL_peer_2 : decode cL_peer 2 = .ok (.aload_n 0, 1) := by decide +kernel
theorem dL_peer_3 : decode cL_peer 3 = .ok (.iload_n 1, 1) := by decide +kernel
theorem dL_peer_4 : decode cL_peer 4 = .ok (.iload_n 2, 1) := by decide +kernel
theorem dL_peer_5 : decode cL_peer 5 = .ok (.invokevirtual 43, 3) := by decide +kernel
theorem dL_peer_8 : decode cL_peer 8 = .ok (.i2l, 1) := by decide +kernel
theorem dL_peer_9 : decode cL_peer 9 = .ok (.lastore, 1) := by decide +kernel
theorem dL_peer_10 : decode cL_peer 10 = .ok (.goto 7, 3) := by decide +kernel
theorem dL_peer_13 : decode cL_peer 13 = .ok (.astore 4, 2) := by decide +kernel
theorem dL_peer_15 : decode cL_peer 15 = .ok (.iconst 1, 1) := by decide +kernel
theorem dL_peer_16 : decode cL_peer 16 = .ok (.ireturn, 1) := by decide +kernel
theorem dL_peer_17 : decode cL_peer 17 = .ok (.iconst 0, 1) := by decide +kernel
theorem dL_peer_18 : decode cL_peer 18 = .ok (.ireturn, 1) := by decide +kernel
theorem dL_poke_0 : decode cL_poke 0 = .ok (.aload_n 3, 1) := by decide +kernel
theorem dL_poke_1 : decode cL_poke 1 = .ok (.iconst 0, 1) := by decide +kernel
theorem dL_poke_2 : decode cL_poke 2 = .ok (.aload_n 0, 1) := by decide +kernel
theorem dL_poke_3 : decode cL_poke 3 = .ok (.iload_n 1, 1) := by decide +kernel
theorem dL_poke_4 : decode cL_poke 4 = .ok (.iload_n 2, 1) := by decide +kernel
theorem dL_poke_5 : decode cL_poke 5 = .ok (.invokevirtual 21, 3) := by decide +kernel
theorem dL_poke_8 : decode cL_poke 8 = .ok (.i2l, 1) := by decide +kernel
theorem dL_poke_9 : decode cL_poke 9 = .ok (.lastore, 1) := by decide +kernel
theorem dL_poke_10 : decode cL_poke 10 = .ok (.goto 11, 3) := by decide +kernel
theorem dL_poke_13 : decode cL_poke 13 = .ok (.astore 4, 2) := by decide +kernel
theorem dL_poke_15 : decode cL_poke 15 = .ok (.iconst 1, 1) := by decide +kernel
theorem dL_poke_16 : decode cL_poke 16 = .ok (.ireturn, 1) := by decide +kernel
theorem dL_poke_17 : decode cL_poke 17 = .ok (.astore 4, 2) := by decide +kernel
theorem dL_poke_19 : decode cL_poke 19 = .ok (.iconst 2, 1) := by decide +kernel
theorem dL_poke_20 : decode cL_poke 20 = .ok (.ireturn, 1) := by decide +kernel
theorem dL_poke_21 : decode cL_poke 21 = .ok (.iconst 0, 1) := by decide +kernel
theorem dL_poke_22 : decode cL_poke 22 = .ok (.ireturn, 1) := by decide +kernel
theorem dL_policy_0 : decode cL_policy 0 = .ok (.aload 7, 2) := by decide +kernel
theorem dL_policy_2 : decode cL_policy 2 = .ok (.iconst 0, 1) := by decide +kernel
theorem dL_policy_3 : decode cL_policy 3 = .ok (.aload_n 0, 1) := by decide +kernel
theorem dL_policy_4 : decode cL_policy 4 = .ok (.iload_n 1, 1) := by decide +kernel
theorem dL_policy_5 : decode cL_policy 5 = .ok (.iload_n 2, 1) := by decide +kernel
theorem dL_policy_6 : decode cL_policy 6 = .ok (.iload_n 3, 1) := by decide +kernel
theorem dL_policy_7 : decode cL_policy 7 = .ok (.iload 4, 2) := by decide +kernel
theorem dL_policy_9 : decode cL_policy 9 = .ok (.iload 5, 2) := by decide +kernel
theorem dL_policy_11 : decode cL_policy 11 = .ok (.iload 6, 2) := by decide +kernel
theorem dL_policy_13 : decode cL_policy 13 = .ok (.invokevirtual 50, 3) := by decide +kernel
theorem dL_policy_16 : decode cL_policy 16 = .ok (.i2l, 1) := by decide +kernel
theorem dL_policy_17 : decode cL_policy 17 = .ok (.lastore, 1) := by decide +kernel
theorem dL_policy_18 : decode cL_policy 18 = .ok (.goto 11, 3) := by decide +kernel
theorem dL_policy_21 : decode cL_policy 21 = .ok (.astore 8, 2) := by decide +kernel
theorem dL_policy_23 : decode cL_policy 23 = .ok (.iconst 1, 1) := by decide +kernel
theorem dL_policy_24 : decode cL_policy 24 = .ok (.ireturn, 1) := by decide +kernel
theorem dL_policy_25 : decode cL_policy 25 = .ok (.astore 8, 2) := by decide +kernel
theorem dL_policy_27 : decode cL_policy 27 = .ok (.iconst 2, 1) := by decide +kernel
theorem dL_policy_28 : decode cL_policy 28 = .ok (.ireturn, 1) := by decide +kernel
theorem dL_policy_29 : decode cL_policy 29 = .ok (.iconst 0, 1) := by decide +kernel
theorem dL_policy_30 : decode cL_policy 30 = .ok (.ireturn, 1) := by decide +kernel
theorem dL_route_0 : decode cL_route 0 = .ok (.aload 4, 2) := by decide +kernel
theorem dL_route_2 : decode cL_route 2 = .ok (.iconst 0, 1) := by decide +kernel
theorem dL_route_3 : decode cL_route 3 = .ok (.aload_n 0, 1) := by decide +kernel
theorem dL_route_4 : decode cL_route 4 = .ok (.iload_n 1, 1) := by decide +kernel
theorem dL_route_5 : decode cL_route 5 = .ok (.iload_n 2, 1) := by decide +kernel
theorem dL_route_6 : decode cL_route 6 = .ok (.iload_n 3, 1) := by decide +kernel
theorem dL_route_7 : decode cL_route 7 = .ok (.invokevirtual 39, 3) := by decide +kernel
theorem dL_route_10 : decode cL_route 10 = .ok (.i2l, 1) := by decide +kernel
theorem dL_route_11 : decode cL_route 11 = .ok (.lastore, 1) := by decide +kernel
theorem dL_route_12 : decode cL_route 12 = .ok (.goto 11, 3) := by decide +kernel
theorem dL_route_15 : decode cL_route 15 = .ok (.astore 5, 2) := by decide +kernel
theorem dL_route_17 : decode cL_route 17 = .ok (.iconst 1, 1) := by decide +kernel
theorem dL_route_18 : decode cL_route 18 = .ok (.ireturn, 1) := by decide +kernel
theorem dL_route_19 : decode cL_route 19 = .ok (.astore 5, 2) := by decide +kernel
theorem dL_route_21 : decode cL_route 21 = .ok (.iconst 2, 1) := by decide +kernel
theorem dL_route_22 : decode cL_route 22 = .ok (.ireturn, 1) := by decide +kernel
theorem dL_route_23 : decode cL_route 23 = .ok (.iconst 0, 1) := by decide +kernel
theorem dL_route_24 : decode cL_route 24 = .ok (.ireturn, 1) := by decide +kernel
theorem dL_seal_0 : decode cL_seal 0 = .ok (.aload 10, 2) := by decide +kernel
theorem dL_seal_2 : decode cL_seal 2 = .ok (.iconst 0, 1) := by decide +kernel
theorem dL_seal_3 : decode cL_seal 3 = .ok (.aload_n 0, 1) := by decide +kernel
theorem dL_seal_4 : decode cL_seal 4 = .ok (.iload_n 1, 1) := by decide +kernel
theorem dL_seal_5 : decode cL_seal 5 = .ok (.iload_n 2, 1) := by decide +kernel
theorem dL_seal_6 : decode cL_seal 6 = .ok (.iload_n 3, 1) := by decide +kernel
theorem dL_seal_7 : decode cL_seal 7 = .ok (.lload 4, 2) := by decide +kernel
theorem dL_seal_9 : decode cL_seal 9 = .ok (.lload 6, 2) := by decide +kernel
theorem dL_seal_11 : decode cL_seal 11 = .ok (.iload 8, 2) := by decide +kernel
theorem dL_seal_13 : decode cL_seal 13 = .ok (.iload 9, 2) := by decide +kernel
theorem dL_seal_15 : decode cL_seal 15 = .ok (.invokevirtual 53, 3) := by decide +kernel
theorem dL_seal_18 : decode cL_seal 18 = .ok (.i2l, 1) := by decide +kernel
theorem dL_seal_19 : decode cL_seal 19 = .ok (.lastore, 1) := by decide +kernel
theorem dL_seal_20 : decode cL_seal 20 = .ok (.goto 15, 3) := by decide +kernel
theorem dL_seal_23 : decode cL_seal 23 = .ok (.astore 11, 2) := by decide +kernel
theorem dL_seal_25 : decode cL_seal 25 = .ok (.iconst 1, 1) := by decide +kernel
theorem dL_seal_26 : decode cL_seal 26 = .ok (.ireturn, 1) := by decide +kernel
theorem dL_seal_27 : decode cL_seal 27 = .ok (.astore 11, 2) := by decide +kernel
theorem dL_seal_29 : decode cL_seal 29 = .ok (.iconst 2, 1) := by decide +kernel
theorem dL_seal_30 : decode cL_seal 30 = .ok (.ireturn, 1) := by decide +kernel
theorem dL_seal_31 : decode cL_seal 31 = .ok (.astore 11, 2) := by decide +kernel
theorem dL_seal_33 : decode cL_seal 33 = .ok (.iconst 3, 1) := by decide +kernel
theorem dL_seal_34 : decode cL_seal 34 = .ok (.ireturn, 1) := by decide +kernel
theorem dL_seal_35 : decode cL_seal 35 = .ok (.iconst 0, 1) := by decide +kernel
theorem dL_seal_36 : decode cL_seal 36 = .ok (.ireturn, 1) := by decide +kernel
theorem dL_seen_0 : decode cL_seen 0 = .ok (.aload_n 2, 1) := by decide +kernel
theorem dL_seen_1 : decode cL_seen 1 = .ok (.iconst 0, 1) := by decide +kernel
theorem dL_seen_2 : decode cL_seen 2 = .ok (.aload_n 0, 1) := by decide +kernel
theorem dL_seen_3 : decode cL_seen 3 = .ok (.iload_n 1, 1) := by decide +kernel
theorem dL_seen_4 : decode cL_seen 4 = .ok (.invokevirtual 84, 3) := by decide +kernel
theorem dL_seen_7 : decode cL_seen 7 = .ok (.lastore, 1) := by decide +kernel
theorem dL_seen_8 : decode cL_seen 8 = .ok (.goto 6, 3) := by decide +kernel
theorem dL_seen_11 : decode cL_seen 11 = .ok (.astore_n 3, 1) := by decide +kernel
theorem dL_seen_12 : decode cL_seen 12 = .ok (.iconst 1, 1) := by decide +kernel
theorem dL_seen_13 : decode cL_seen 13 = .ok (.ireturn, 1) := by decide +kernel
theorem dL_seen_14 : decode cL_seen 14 = .ok (.iconst 0, 1) := by decide +kernel
theorem dL_seen_15 : decode cL_seen 15 = .ok (.ireturn, 1) := by decide +kernel
theorem dL_sent_0 : decode cL_sent 0 = .ok (.aload_n 3, 1) := by decide +kernel
theorem dL_sent_1 : decode cL_sent 1 = .ok (.iconst 0, 1) := by decide +kernel
theorem dL_sent_2 : decode cL_sent 2 = .ok (.aload_n 0, 1) := by decide +kernel
theorem dL_sent_3 : decode cL_sent 3 = .ok (.iload_n 1, 1) := by decide +kernel
theorem dL_sent_4 : decode cL_sent 4 = .ok (.iload_n 2, 1) := by decide +kernel
theorem dL_sent_5 : decode cL_sent 5 = .ok (.invokevirtual 71, 3) := by decide +kernel
theorem dL_sent_8 : decode cL_sent 8 = .ok (.i2l, 1) := by decide +kernel
theorem dL_sent_9 : decode cL_sent 9 = .ok (.lastore, 1) := by decide +kernel
theorem dL_sent_10 : decode cL_sent 10 = .ok (.goto 7, 3) := by decide +kernel
theorem dL_sent_13 : decode cL_sent 13 = .ok (.astore 4, 2) := by decide +kernel
theorem dL_sent_15 : decode cL_sent 15 = .ok (.iconst 1, 1) := by decide +kernel
theorem dL_sent_16 : decode cL_sent 16 = .ok (.ireturn, 1) := by decide +kernel
theorem dL_sent_17 : decode cL_sent 17 = .ok (.iconst 0, 1) := by decide +kernel
theorem dL_sent_18 : decode cL_sent 18 = .ok (.ireturn, 1) := by decide +kernel
theorem dL_stop_0 : decode cL_stop 0 = .ok (.aload_n 2, 1) := by decide +kernel
theorem dL_stop_1 : decode cL_stop 1 = .ok (.iconst 0, 1) := by decide +kernel
theorem dL_stop_2 : decode cL_stop 2 = .ok (.aload_n 0, 1) := by decide +kernel
theorem dL_stop_3 : decode cL_stop 3 = .ok (.iload_n 1, 1) := by decide +kernel
theorem dL_stop_4 : decode cL_stop 4 = .ok (.invokevirtual 57, 3) := by decide +kernel
theorem dL_stop_7 : decode cL_stop 7 = .ok (.ifCond .eq 7, 3) := by decide +kernel
theorem dL_stop_10 : decode cL_stop 10 = .ok (.lconst 1, 1) := by decide +kernel
theorem dL_stop_11 : decode cL_stop 11 = .ok (.goto 4, 3) := by decide +kernel
theorem dL_stop_14 : decode cL_stop 14 = .ok (.lconst 0, 1) := by decide +kernel
theorem dL_stop_15 : decode cL_stop 15 = .ok (.lastore, 1) := by decide +kernel
theorem dL_stop_16 : decode cL_stop 16 = .ok (.goto 6, 3) := by decide +kernel
theorem dL_stop_19 : decode cL_stop 19 = .ok (.astore_n 3, 1) := by decide +kernel
theorem dL_stop_20 : decode cL_stop 20 = .ok (.iconst 1, 1) := by decide +kernel
theorem dL_stop_21 : decode cL_stop 21 = .ok (.ireturn, 1) := by decide +kernel
theorem dL_stop_22 : decode cL_stop 22 = .ok (.iconst 0, 1) := by decide +kernel
theorem dL_stop_23 : decode cL_stop 23 = .ok (.ireturn, 1) := by decide +kernel
theorem dL_sum_0 : decode cL_sum 0 = .ok (.aload_n 1, 1) := by decide +kernel
theorem dL_sum_1 : decode cL_sum 1 = .ok (.iconst 0, 1) := by decide +kernel
theorem dL_sum_2 : decode cL_sum 2 = .ok (.aload_n 0, 1) := by decide +kernel
theorem dL_sum_3 : decode cL_sum 3 = .ok (.invokevirtual 35, 3) := by decide +kernel
theorem dL_sum_6 : decode cL_sum 6 = .ok (.i2l, 1) := by decide +kernel
theorem dL_sum_7 : decode cL_sum 7 = .ok (.lastore, 1) := by decide +kernel
theorem dL_sum_8 : decode cL_sum 8 = .ok (.goto 6, 3) := by decide +kernel
theorem dL_sum_11 : decode cL_sum 11 = .ok (.astore_n 2, 1) := by decide +kernel
theorem dL_sum_12 : decode cL_sum 12 = .ok (.iconst 1, 1) := by decide +kernel
theorem dL_sum_13 : decode cL_sum 13 = .ok (.ireturn, 1) := by decide +kernel
theorem dL_sum_14 : decode cL_sum 14 = .ok (.iconst 0, 1) := by decide +kernel
theorem dL_sum_15 : decode cL_sum 15 = .ok (.ireturn, 1) := by decide +kernel
theorem dL_take_0 : decode cL_take 0 = .ok (.aload_n 2, 1) := by decide +kernel
theorem dL_take_1 : decode cL_take 1 = .ok (.iconst 0, 1) := by decide +kernel
theorem dL_take_2 : decode cL_take 2 = .ok (.aload_n 0, 1) := by decide +kernel
theorem dL_take_3 : decode cL_take 3 = .ok (.iload_n 1, 1) := by decide +kernel
theorem dL_take_4 : decode cL_take 4 = .ok (.invokevirtual 74, 3) := by decide +kernel
theorem dL_take_7 : decode cL_take 7 = .ok (.i2l, 1) := by decide +kernel
theorem dL_take_8 : decode cL_take 8 = .ok (.lastore, 1) := by decide +kernel
theorem dL_take_9 : decode cL_take 9 = .ok (.goto 9, 3) := by decide +kernel
theorem dL_take_12 : decode cL_take 12 = .ok (.astore_n 3, 1) := by decide +kernel
theorem dL_take_13 : decode cL_take 13 = .ok (.iconst 1, 1) := by decide +kernel
theorem dL_take_14 : decode cL_take 14 = .ok (.ireturn, 1) := by decide +kernel
theorem dL_take_15 : decode cL_take 15 = .ok (.astore_n 3, 1) := by decide +kernel
theorem dL_take_16 : decode cL_take 16 = .ok (.iconst 2, 1) := by decide +kernel
theorem dL_take_17 : decode cL_take 17 = .ok (.ireturn, 1) := by decide +kernel
theorem dL_take_18 : decode cL_take 18 = .ok (.iconst 0, 1) := by decide +kernel
theorem dL_take_19 : decode cL_take 19 = .ok (.ireturn, 1) := by decide +kernel
theorem dL_told_0 : decode cL_told 0 = .ok (.aload_n 3, 1) := by decide +kernel
theorem dL_told_1 : decode cL_told 1 = .ok (.iconst 0, 1) := by decide +kernel
theorem dL_told_2 : decode cL_told 2 = .ok (.aload_n 0, 1) := by decide +kernel
theorem dL_told_3 : decode cL_told 3 = .ok (.iload_n 1, 1) := by decide +kernel
theorem dL_told_4 : decode cL_told 4 = .ok (.iload_n 2, 1) := by decide +kernel
theorem dL_told_5 : decode cL_told 5 = .ok (.invokevirtual 77, 3) := by decide +kernel
theorem dL_told_8 : decode cL_told 8 = .ok (.i2l, 1) := by decide +kernel
theorem dL_told_9 : decode cL_told 9 = .ok (.lastore, 1) := by decide +kernel
theorem dL_told_10 : decode cL_told 10 = .ok (.goto 7, 3) := by decide +kernel
theorem dL_told_13 : decode cL_told 13 = .ok (.astore 4, 2) := by decide +kernel
theorem dL_told_15 : decode cL_told 15 = .ok (.iconst 1, 1) := by decide +kernel
theorem dL_told_16 : decode cL_told 16 = .ok (.ireturn, 1) := by decide +kernel
theorem dL_told_17 : decode cL_told 17 = .ok (.iconst 0, 1) := by decide +kernel
theorem dL_told_18 : decode cL_told 18 = .ok (.ireturn, 1) := by decide +kernel
theorem dL_top_0 : decode cL_top 0 = .ok (.aload_n 2, 1) := by decide +kernel
theorem dL_top_1 : decode cL_top 1 = .ok (.iconst 0, 1) := by decide +kernel
theorem dL_top_2 : decode cL_top 2 = .ok (.aload_n 0, 1) := by decide +kernel
theorem dL_top_3 : decode cL_top 3 = .ok (.iload_n 1, 1) := by decide +kernel
theorem dL_top_4 : decode cL_top 4 = .ok (.invokevirtual 80, 3) := by decide +kernel
theorem dL_top_7 : decode cL_top 7 = .ok (.lastore, 1) := by decide +kernel
theorem dL_top_8 : decode cL_top 8 = .ok (.goto 6, 3) := by decide +kernel
theorem dL_top_11 : decode cL_top 11 = .ok (.astore_n 3, 1) := by decide +kernel
theorem dL_top_12 : decode cL_top 12 = .ok (.iconst 1, 1) := by decide +kernel
theorem dL_top_13 : decode cL_top 13 = .ok (.ireturn, 1) := by decide +kernel
theorem dL_top_14 : decode cL_top 14 = .ok (.iconst 0, 1) := by decide +kernel
theorem dL_top_15 : decode cL_top 15 = .ok (.ireturn, 1) := by decide +kernel
theorem dL_type_0 : decode cL_type 0 = .ok (.aload_n 3, 1) := by decide +kernel
theorem dL_type_1 : decode cL_type 1 = .ok (.iconst 0, 1) := by decide +kernel
theorem dL_type_2 : decode cL_type 2 = .ok (.aload_n 0, 1) := by decide +kernel
theorem dL_type_3 : decode cL_type 3 = .ok (.lload_n 1, 1) := by decide +kernel
theorem dL_type_4 : decode cL_type 4 = .ok (.invokevirtual 7, 3) := by decide +kernel
theorem dL_type_7 : decode cL_type 7 = .ok (.i2l, 1) := by decide +kernel
theorem dL_type_8 : decode cL_type 8 = .ok (.lastore, 1) := by decide +kernel
theorem dL_type_9 : decode cL_type 9 = .ok (.goto 7, 3) := by decide +kernel
theorem dL_type_12 : decode cL_type 12 = .ok (.astore 4, 2) := by decide +kernel
theorem dL_type_14 : decode cL_type 14 = .ok (.iconst 1, 1) := by decide +kernel
theorem dL_type_15 : decode cL_type 15 = .ok (.ireturn, 1) := by decide +kernel
theorem dL_type_16 : decode cL_type 16 = .ok (.iconst 0, 1) := by decide +kernel
theorem dL_type_17 : decode cL_type 17 = .ok (.ireturn, 1) := by decide +kernel
