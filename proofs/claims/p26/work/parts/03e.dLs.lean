theorem dL_allows_0 : decode cL_allows 0 = .ok (.aload_n 0, 1) := by decide +kernel
theorem dL_allows_1 : decode cL_allows 1 = .ok (.iload_n 1, 1) := by decide +kernel
theorem dL_allows_2 : decode cL_allows 2 = .ok (.iload_n 2, 1) := by decide +kernel
theorem dL_allows_3 : decode cL_allows 3 = .ok (.invokevirtual 7, 3) := by decide +kernel
theorem dL_allows_6 : decode cL_allows 6 = .ok (.ireturn, 1) := by decide +kernel
theorem dL_allows_7 : decode cL_allows 7 = .ok (.astore_n 3, 1) := by decide +kernel
theorem dL_allows_8 : decode cL_allows 8 = .ok (.ldc 15, 2) := by decide +kernel
theorem dL_allows_10 : decode cL_allows 10 = .ok (.ireturn, 1) := by decide +kernel
theorem dL_allows_11 : decode cL_allows 11 = .ok (.astore_n 3, 1) := by decide +kernel
theorem dL_allows_12 : decode cL_allows 12 = .ok (.ldc 18, 2) := by decide +kernel
theorem dL_allows_14 : decode cL_allows 14 = .ok (.ireturn, 1) := by decide +kernel
theorem dL_images_0 : decode cL_images 0 = .ok (.aload_n 0, 1) := by decide +kernel
theorem dL_images_1 : decode cL_images 1 = .ok (.iload_n 1, 1) := by decide +kernel
theorem dL_images_2 : decode cL_images 2 = .ok (.iload_n 2, 1) := by decide +kernel
theorem dL_images_3 : decode cL_images 3 = .ok (.invokevirtual 19, 3) := by decide +kernel
theorem dL_images_6 : decode cL_images 6 = .ok (.ireturn, 1) := by decide +kernel
theorem dL_images_7 : decode cL_images 7 = .ok (.astore_n 3, 1) := by decide +kernel
theorem dL_images_8 : decode cL_images 8 = .ok (.ldc 15, 2) := by decide +kernel
theorem dL_images_10 : decode cL_images 10 = .ok (.ireturn, 1) := by decide +kernel
theorem dL_images_11 : decode cL_images 11 = .ok (.astore_n 3, 1) := by decide +kernel
theorem dL_images_12 : decode cL_images 12 = .ok (.ldc 18, 2) := by decide +kernel
theorem dL_images_14 : decode cL_images 14 = .ok (.ireturn, 1) := by decide +kernel
theorem dL_deltas_0 : decode cL_deltas 0 = .ok (.aload_n 0, 1) := by decide +kernel
theorem dL_deltas_1 : decode cL_deltas 1 = .ok (.iload_n 1, 1) := by decide +kernel
theorem dL_deltas_2 : decode cL_deltas 2 = .ok (.iload_n 2, 1) := by decide +kernel
theorem dL_deltas_3 : decode cL_deltas 3 = .ok (.iload_n 3, 1) := by decide +kernel
theorem dL_deltas_4 : decode cL_deltas 4 = .ok (.invokevirtual 22, 3) := by decide +kernel
theorem dL_deltas_7 : decode cL_deltas 7 = .ok (.ireturn, 1) := by decide +kernel
theorem dL_deltas_8 : decode cL_deltas 8 = .ok (.astore 4, 2) := by decide +kernel
theorem dL_deltas_10 : decode cL_deltas 10 = .ok (.ldc 15, 2) := by decide +kernel
theorem dL_deltas_12 : decode cL_deltas 12 = .ok (.ireturn, 1) := by decide +kernel
theorem dL_deltas_13 : decode cL_deltas 13 = .ok (.astore 4, 2) := by decide +kernel
theorem dL_deltas_15 : decode cL_deltas 15 = .ok (.ldc 18, 2) := by decide +kernel
theorem dL_deltas_17 : decode cL_deltas 17 = .ok (.ireturn, 1) := by decide +kernel
theorem dL_size_0 : decode cL_size 0 = .ok (.aload_n 0, 1) := by decide +kernel
theorem dL_size_1 : decode cL_size 1 = .ok (.iload_n 1, 1) := by decide +kernel
theorem dL_size_2 : decode cL_size 2 = .ok (.iload_n 2, 1) := by decide +kernel
theorem dL_size_3 : decode cL_size 3 = .ok (.invokevirtual 26, 3) := by decide +kernel
theorem dL_size_6 : decode cL_size 6 = .ok (.ireturn, 1) := by decide +kernel
theorem dL_size_7 : decode cL_size 7 = .ok (.astore_n 3, 1) := by decide +kernel
theorem dL_size_8 : decode cL_size 8 = .ok (.ldc 15, 2) := by decide +kernel
theorem dL_size_10 : decode cL_size 10 = .ok (.ireturn, 1) := by decide +kernel
theorem dL_byWays_0 : decode cL_byWays 0 = .ok (.aload_n 0, 1) := by decide +kernel
theorem dL_byWays_1 : decode cL_byWays 1 = .ok (.iload_n 1, 1) := by decide +kernel
theorem dL_byWays_2 : decode cL_byWays 2 = .ok (.iload_n 2, 1) := by decide +kernel
theorem dL_byWays_3 : decode cL_byWays 3 = .ok (.invokevirtual 29, 3) := by decide +kernel
theorem dL_byWays_6 : decode cL_byWays 6 = .ok (.ireturn, 1) := by decide +kernel
theorem dL_byWays_7 : decode cL_byWays 7 = .ok (.astore_n 3, 1) := by decide +kernel
theorem dL_byWays_8 : decode cL_byWays 8 = .ok (.ldc 15, 2) := by decide +kernel
theorem dL_byWays_10 : decode cL_byWays 10 = .ok (.ireturn, 1) := by decide +kernel
theorem dL_adds_0 : decode cL_adds 0 = .ok (.aload_n 0, 1) := by decide +kernel
theorem dL_adds_1 : decode cL_adds 1 = .ok (.iload_n 1, 1) := by decide +kernel
theorem dL_adds_2 : decode cL_adds 2 = .ok (.iload_n 2, 1) := by decide +kernel
theorem dL_adds_3 : decode cL_adds 3 = .ok (.invokevirtual 32, 3) := by decide +kernel
theorem dL_adds_6 : decode cL_adds 6 = .ok (.ireturn, 1) := by decide +kernel
theorem dL_adds_7 : decode cL_adds 7 = .ok (.astore_n 3, 1) := by decide +kernel
theorem dL_adds_8 : decode cL_adds 8 = .ok (.ldc 15, 2) := by decide +kernel
theorem dL_adds_10 : decode cL_adds 10 = .ok (.ireturn, 1) := by decide +kernel
theorem dL_adds_11 : decode cL_adds 11 = .ok (.astore_n 3, 1) := by decide +kernel
theorem dL_adds_12 : decode cL_adds 12 = .ok (.ldc 37, 2) := by decide +kernel
theorem dL_adds_14 : decode cL_adds 14 = .ok (.ireturn, 1) := by decide +kernel
theorem dL_charges_0 : decode cL_charges 0 = .ok (.aload_n 0, 1) := by decide +kernel
theorem dL_charges_1 : decode cL_charges 1 = .ok (.iload_n 1, 1) := by decide +kernel
theorem dL_charges_2 : decode cL_charges 2 = .ok (.iload_n 2, 1) := by decide +kernel
theorem dL_charges_3 : decode cL_charges 3 = .ok (.invokevirtual 38, 3) := by decide +kernel
theorem dL_charges_6 : decode cL_charges 6 = .ok (.ireturn, 1) := by decide +kernel
theorem dL_charges_7 : decode cL_charges 7 = .ok (.astore_n 3, 1) := by decide +kernel
theorem dL_charges_8 : decode cL_charges 8 = .ok (.ldc 15, 2) := by decide +kernel
theorem dL_charges_10 : decode cL_charges 10 = .ok (.ireturn, 1) := by decide +kernel
theorem dL_charges_11 : decode cL_charges 11 = .ok (.astore_n 3, 1) := by decide +kernel
theorem dL_charges_12 : decode cL_charges 12 = .ok (.ldc 18, 2) := by decide +kernel
theorem dL_charges_14 : decode cL_charges 14 = .ok (.ireturn, 1) := by decide +kernel
theorem dL_windows_0 : decode cL_windows 0 = .ok (.aload_n 0, 1) := by decide +kernel
theorem dL_windows_1 : decode cL_windows 1 = .ok (.iload_n 1, 1) := by decide +kernel
theorem dL_windows_2 : decode cL_windows 2 = .ok (.iload_n 2, 1) := by decide +kernel
theorem dL_windows_3 : decode cL_windows 3 = .ok (.iload_n 3, 1) := by decide +kernel
theorem dL_windows_4 : decode cL_windows 4 = .ok (.invokevirtual 41, 3) := by decide +kernel
theorem dL_windows_7 : decode cL_windows 7 = .ok (.iconst 0, 1) := by decide +kernel
theorem dL_windows_8 : decode cL_windows 8 = .ok (.ireturn, 1) := by decide +kernel
theorem dL_windows_9 : decode cL_windows 9 = .ok (.astore 4, 2) := by decide +kernel
theorem dL_windows_11 : decode cL_windows 11 = .ok (.ldc 15, 2) := by decide +kernel
theorem dL_windows_13 : decode cL_windows 13 = .ok (.ireturn, 1) := by decide +kernel
theorem dL_windows_14 : decode cL_windows 14 = .ok (.astore 4, 2) := by decide +kernel
theorem dL_windows_16 : decode cL_windows 16 = .ok (.ldc 18, 2) := by decide +kernel
theorem dL_windows_18 : decode cL_windows 18 = .ok (.ireturn, 1) := by decide +kernel
theorem dL_reports_0 : decode cL_reports 0 = .ok (.aload_n 0, 1) := by decide +kernel
theorem dL_reports_1 : decode cL_reports 1 = .ok (.iload_n 1, 1) := by decide +kernel
theorem dL_reports_2 : decode cL_reports 2 = .ok (.iload_n 2, 1) := by decide +kernel
theorem dL_reports_3 : decode cL_reports 3 = .ok (.invokevirtual 45, 3) := by decide +kernel
theorem dL_reports_6 : decode cL_reports 6 = .ok (.ireturn, 1) := by decide +kernel
theorem dL_reports_7 : decode cL_reports 7 = .ok (.astore_n 3, 1) := by decide +kernel
theorem dL_reports_8 : decode cL_reports 8 = .ok (.ldc 15, 2) := by decide +kernel
theorem dL_reports_10 : decode cL_reports 10 = .ok (.ireturn, 1) := by decide +kernel
theorem dL_reports_11 : decode cL_reports 11 = .ok (.astore_n 3, 1) := by decide +kernel
theorem dL_reports_12 : decode cL_reports 12 = .ok (.ldc 37, 2) := by decide +kernel
theorem dL_reports_14 : decode cL_reports 14 = .ok (.ireturn, 1) := by decide +kernel
theorem dL_state_0 : decode cL_state 0 = .ok (.aload_n 0, 1) := by decide +kernel
theorem dL_state_1 : decode cL_state 1 = .ok (.iload_n 1, 1) := by decide +kernel
theorem dL_state_2 : decode cL_state 2 = .ok (.invokevirtual 49, 3) := by decide +kernel
theorem dL_state_5 : decode cL_state 5 = .ok (.ireturn, 1) := by decide +kernel
theorem dL_state_6 : decode cL_state 6 = .ok (.astore_n 2, 1) := by decide +kernel
theorem dL_state_7 : decode cL_state 7 = .ok (.ldc 15, 2) := by decide +kernel
theorem dL_state_9 : decode cL_state 9 = .ok (.ireturn, 1) := by decide +kernel
theorem dL_version_0 : decode cL_version 0 = .ok (.aload_n 0, 1) := by decide +kernel
theorem dL_version_1 : decode cL_version 1 = .ok (.iload_n 1, 1) := by decide +kernel
theorem dL_version_2 : decode cL_version 2 = .ok (.invokevirtual 53, 3) := by decide +kernel
theorem dL_version_5 : decode cL_version 5 = .ok (.ireturn, 1) := by decide +kernel
theorem dL_version_6 : decode cL_version 6 = .ok (.astore_n 2, 1) := by decide +kernel
theorem dL_version_7 : decode cL_version 7 = .ok (.ldc 15, 2) := by decide +kernel
theorem dL_version_9 : decode cL_version 9 = .ok (.ireturn, 1) := by decide +kernel
theorem dL_campaign_0 : decode cL_campaign 0 = .ok (.aload_n 0, 1) := by decide +kernel
theorem dL_campaign_1 : decode cL_campaign 1 = .ok (.iload_n 1, 1) := by decide +kernel
theorem dL_campaign_2 : decode cL_campaign 2 = .ok (.invokevirtual 56, 3) := by decide +kernel
theorem dL_campaign_5 : decode cL_campaign 5 = .ok (.ireturn, 1) := by decide +kernel
theorem dL_campaign_6 : decode cL_campaign 6 = .ok (.astore_n 2, 1) := by decide +kernel
theorem dL_campaign_7 : decode cL_campaign 7 = .ok (.ldc 15, 2) := by decide +kernel
theorem dL_campaign_9 : decode cL_campaign 9 = .ok (.ireturn, 1) := by decide +kernel
theorem dL_toGo_0 : decode cL_toGo 0 = .ok (.aload_n 0, 1) := by decide +kernel
theorem dL_toGo_1 : decode cL_toGo 1 = .ok (.iload_n 1, 1) := by decide +kernel
theorem dL_toGo_2 : decode cL_toGo 2 = .ok (.invokevirtual 59, 3) := by decide +kernel
theorem dL_toGo_5 : decode cL_toGo 5 = .ok (.ireturn, 1) := by decide +kernel
theorem dL_toGo_6 : decode cL_toGo 6 = .ok (.astore_n 2, 1) := by decide +kernel
theorem dL_toGo_7 : decode cL_toGo 7 = .ok (.ldc 15, 2) := by decide +kernel
theorem dL_toGo_9 : decode cL_toGo 9 = .ok (.ireturn, 1) := by decide +kernel
theorem dL_battery_0 : decode cL_battery 0 = .ok (.aload_n 0, 1) := by decide +kernel
theorem dL_battery_1 : decode cL_battery 1 = .ok (.iload_n 1, 1) := by decide +kernel
theorem dL_battery_2 : decode cL_battery 2 = .ok (.invokevirtual 62, 3) := by decide +kernel
theorem dL_battery_5 : decode cL_battery 5 = .ok (.ireturn, 1) := by decide +kernel
theorem dL_battery_6 : decode cL_battery 6 = .ok (.astore_n 2, 1) := by decide +kernel
theorem dL_battery_7 : decode cL_battery 7 = .ok (.ldc 15, 2) := by decide +kernel
theorem dL_battery_9 : decode cL_battery 9 = .ok (.ireturn, 1) := by decide +kernel
theorem dL_begins_0 : decode cL_begins 0 = .ok (.aload_n 0, 1) := by decide +kernel
theorem dL_begins_1 : decode cL_begins 1 = .ok (.iload_n 1, 1) := by decide +kernel
theorem dL_begins_2 : decode cL_begins 2 = .ok (.iload_n 2, 1) := by decide +kernel
theorem dL_begins_3 : decode cL_begins 3 = .ok (.iload_n 3, 1) := by decide +kernel
theorem dL_begins_4 : decode cL_begins 4 = .ok (.iload 4, 2) := by decide +kernel
theorem dL_begins_6 : decode cL_begins 6 = .ok (.invokevirtual 65, 3) := by decide +kernel
theorem dL_begins_9 : decode cL_begins 9 = .ok (.ireturn, 1) := by decide +kernel
theorem dL_begins_10 : decode cL_begins 10 = .ok (.astore 5, 2) := by decide +kernel
theorem dL_begins_12 : decode cL_begins 12 = .ok (.ldc 15, 2) := by decide +kernel
theorem dL_begins_14 : decode cL_begins 14 = .ok (.ireturn, 1) := by decide +kernel
theorem dL_begins_15 : decode cL_begins 15 = .ok (.astore 5, 2) := by decide +kernel
theorem dL_begins_17 : decode cL_begins 17 = .ok (.ldc 18, 2) := by decide +kernel
theorem dL_begins_19 : decode cL_begins 19 = .ok (.ireturn, 1) := by decide +kernel
theorem dL_begins_20 : decode cL_begins 20 = .ok (.astore 5, 2) := by decide +kernel
theorem dL_begins_22 : decode cL_begins 22 = .ok (.ldc 37, 2) := by decide +kernel
theorem dL_begins_24 : decode cL_begins 24 = .ok (.ireturn, 1) := by decide +kernel
theorem dL_rules_0 : decode cL_rules 0 = .ok (.aload_n 0, 1) := by decide +kernel
theorem dL_rules_1 : decode cL_rules 1 = .ok (.iload_n 1, 1) := by decide +kernel
theorem dL_rules_2 : decode cL_rules 2 = .ok (.iload_n 2, 1) := by decide +kernel
theorem dL_rules_3 : decode cL_rules 3 = .ok (.iload_n 3, 1) := by decide +kernel
theorem dL_rules_4 : decode cL_rules 4 = .ok (.iload 4, 2) := by decide +kernel
theorem dL_rules_6 : decode cL_rules 6 = .ok (.iload 5, 2) := by decide +kernel
theorem dL_rules_8 : decode cL_rules 8 = .ok (.invokevirtual 69, 3) := by decide +kernel
theorem dL_rules_11 : decode cL_rules 11 = .ok (.iconst 0, 1) := by decide +kernel
theorem dL_rules_12 : decode cL_rules 12 = .ok (.ireturn, 1) := by decide +kernel
theorem dL_rules_13 : decode cL_rules 13 = .ok (.astore 6, 2) := by decide +kernel
theorem dL_rules_15 : decode cL_rules 15 = .ok (.ldc 15, 2) := by decide +kernel
theorem dL_rules_17 : decode cL_rules 17 = .ok (.ireturn, 1) := by decide +kernel
theorem dL_rules_18 : decode cL_rules 18 = .ok (.astore 6, 2) := by decide +kernel
theorem dL_rules_20 : decode cL_rules 20 = .ok (.ldc 18, 2) := by decide +kernel
theorem dL_rules_22 : decode cL_rules 22 = .ok (.ireturn, 1) := by decide +kernel
theorem dL_toggles_0 : decode cL_toggles 0 = .ok (.aload_n 0, 1) := by decide +kernel
theorem dL_toggles_1 : decode cL_toggles 1 = .ok (.iload_n 1, 1) := by decide +kernel
theorem dL_toggles_2 : decode cL_toggles 2 = .ok (.invokevirtual 73, 3) := by decide +kernel
theorem dL_toggles_5 : decode cL_toggles 5 = .ok (.ifCond .eq 7, 3) := by decide +kernel
theorem dL_toggles_8 : decode cL_toggles 8 = .ok (.iconst 1, 1) := by decide +kernel
theorem dL_toggles_9 : decode cL_toggles 9 = .ok (.goto 4, 3) := by decide +kernel
theorem dL_toggles_12 : decode cL_toggles 12 = .ok (.iconst 0, 1) := by decide +kernel
theorem dL_toggles_13 : decode cL_toggles 13 = .ok (.ireturn, 1) := by decide +kernel
theorem dL_toggles_14 : decode cL_toggles 14 = .ok (.astore_n 2, 1) := by decide +kernel
theorem dL_toggles_15 : decode cL_toggles 15 = .ok (.ldc 15, 2) := by decide +kernel
theorem dL_toggles_17 : decode cL_toggles 17 = .ok (.ireturn, 1) := by decide +kernel
theorem dL_active_0 : decode cL_active 0 = .ok (.aload_n 0, 1) := by decide +kernel
theorem dL_active_1 : decode cL_active 1 = .ok (.iload_n 1, 1) := by decide +kernel
theorem dL_active_2 : decode cL_active 2 = .ok (.invokevirtual 77, 3) := by decide +kernel
theorem dL_active_5 : decode cL_active 5 = .ok (.ifCond .eq 7, 3) := by decide +kernel
theorem dL_active_8 : decode cL_active 8 = .ok (.iconst 1, 1) := by decide +kernel
theorem dL_active_9 : decode cL_active 9 = .ok (.goto 4, 3) := by decide +kernel
theorem dL_active_12 : decode cL_active 12 = .ok (.iconst 0, 1) := by decide +kernel
theorem dL_active_13 : decode cL_active 13 = .ok (.ireturn, 1) := by decide +kernel
theorem dL_active_14 : decode cL_active 14 = .ok (.astore_n 2, 1) := by decide +kernel
theorem dL_active_15 : decode cL_active 15 = .ok (.ldc 15, 2) := by decide +kernel
theorem dL_active_17 : decode cL_active 17 = .ok (.ireturn, 1) := by decide +kernel
theorem dL_ring_0 : decode cL_ring 0 = .ok (.aload_n 0, 1) := by decide +kernel
theorem dL_ring_1 : decode cL_ring 1 = .ok (.iload_n 1, 1) := by decide +kernel
theorem dL_ring_2 : decode cL_ring 2 = .ok (.invokevirtual 80, 3) := by decide +kernel
theorem dL_ring_5 : decode cL_ring 5 = .ok (.ireturn, 1) := by decide +kernel
theorem dL_ring_6 : decode cL_ring 6 = .ok (.astore_n 2, 1) := by decide +kernel
theorem dL_ring_7 : decode cL_ring 7 = .ok (.ldc 15, 2) := by decide +kernel
theorem dL_ring_9 : decode cL_ring 9 = .ok (.ireturn, 1) := by decide +kernel
theorem dL_counted_0 : decode cL_counted 0 = .ok (.aload_n 0, 1) := by decide +kernel
theorem dL_counted_1 : decode cL_counted 1 = .ok (.iload_n 1, 1) := by decide +kernel
theorem dL_counted_2 : decode cL_counted 2 = .ok (.invokevirtual 83, 3) := by decide +kernel
theorem dL_counted_5 : decode cL_counted 5 = .ok (.ireturn, 1) := by decide +kernel
theorem dL_counted_6 : decode cL_counted 6 = .ok (.astore_n 2, 1) := by decide +kernel
theorem dL_counted_7 : decode cL_counted 7 = .ok (.ldc 15, 2) := by decide +kernel
theorem dL_counted_9 : decode cL_counted 9 = .ok (.ireturn, 1) := by decide +kernel
theorem dL_eligible_0 : decode cL_eligible 0 = .ok (.aload_n 0, 1) := by decide +kernel
theorem dL_eligible_1 : decode cL_eligible 1 = .ok (.iload_n 1, 1) := by decide +kernel
theorem dL_eligible_2 : decode cL_eligible 2 = .ok (.invokevirtual 86, 3) := by decide +kernel
theorem dL_eligible_5 : decode cL_eligible 5 = .ok (.ireturn, 1) := by decide +kernel
theorem dL_eligible_6 : decode cL_eligible 6 = .ok (.astore_n 2, 1) := by decide +kernel
theorem dL_eligible_7 : decode cL_eligible 7 = .ok (.ldc 15, 2) := by decide +kernel
theorem dL_eligible_9 : decode cL_eligible 9 = .ok (.ireturn, 1) := by decide +kernel
theorem dL_passes_0 : decode cL_passes 0 = .ok (.aload_n 0, 1) := by decide +kernel
theorem dL_passes_1 : decode cL_passes 1 = .ok (.iload_n 1, 1) := by decide +kernel
theorem dL_passes_2 : decode cL_passes 2 = .ok (.invokevirtual 89, 3) := by decide +kernel
theorem dL_passes_5 : decode cL_passes 5 = .ok (.ireturn, 1) := by decide +kernel
theorem dL_passes_6 : decode cL_passes 6 = .ok (.astore_n 2, 1) := by decide +kernel
theorem dL_passes_7 : decode cL_passes 7 = .ok (.ldc 18, 2) := by decide +kernel
theorem dL_passes_9 : decode cL_passes 9 = .ok (.ireturn, 1) := by decide +kernel
theorem dL_drawn_0 : decode cL_drawn 0 = .ok (.iload_n 1, 1) := by decide +kernel
theorem dL_drawn_1 : decode cL_drawn 1 = .ok (.aload_n 0, 1) := by decide +kernel
theorem dL_drawn_2 : decode cL_drawn 2 = .ok (.arraylength, 1) := by decide +kernel
theorem dL_drawn_3 : decode cL_drawn 3 = .ok (.if_icmp .ge 9, 3) := by decide +kernel
theorem dL_drawn_6 : decode cL_drawn 6 = .ok (.aload_n 0, 1) := by decide +kernel
theorem dL_drawn_7 : decode cL_drawn 7 = .ok (.iload_n 1, 1) := by decide +kernel
theorem dL_drawn_8 : decode cL_drawn 8 = .ok (.iaload, 1) := by decide +kernel
theorem dL_drawn_9 : decode cL_drawn 9 = .ok (.goto 13, 3) := by decide +kernel
theorem dL_drawn_12 : decode cL_drawn 12 = .ok (.ldc 92, 2) := by decide +kernel
theorem dL_drawn_14 : decode cL_drawn 14 = .ok (.iload_n 1, 1) := by decide +kernel
theorem dL_drawn_15 : decode cL_drawn 15 = .ok (.iconst 3, 1) := by decide +kernel
theorem dL_drawn_16 : decode cL_drawn 16 = .ok (.iadd, 1) := by decide +kernel
theorem dL_drawn_17 : decode cL_drawn 17 = .ok (.imul, 1) := by decide +kernel
theorem dL_drawn_18 : decode cL_drawn 18 = .ok (.sipush 13799, 3) := by decide +kernel
theorem dL_drawn_21 : decode cL_drawn 21 = .ok (.iadd, 1) := by decide +kernel
theorem dL_drawn_22 : decode cL_drawn 22 = .ok (.ldc 93, 2) := by decide +kernel
theorem dL_drawn_24 : decode cL_drawn 24 = .ok (.iand, 1) := by decide +kernel
theorem dL_drawn_25 : decode cL_drawn 25 = .ok (.ireturn, 1) := by decide +kernel
