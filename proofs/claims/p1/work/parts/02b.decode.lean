theorem dL_account_0 : decode cL_account 0 = .ok (.aload 6, 2) := by decide +kernel
theorem dL_account_2 : decode cL_account 2 = .ok (.iconst 0, 1) := by decide +kernel
theorem dL_account_3 : decode cL_account 3 = .ok (.aload_n 0, 1) := by decide +kernel
theorem dL_account_4 : decode cL_account 4 = .ok (.iload_n 1, 1) := by decide +kernel
theorem dL_account_5 : decode cL_account 5 = .ok (.iload_n 2, 1) := by decide +kernel
theorem dL_account_6 : decode cL_account 6 = .ok (.iload_n 3, 1) := by decide +kernel
theorem dL_account_7 : decode cL_account 7 = .ok (.iload 4, 2) := by decide +kernel
theorem dL_account_9 : decode cL_account 9 = .ok (.iload 5, 2) := by decide +kernel
theorem dL_account_11 : decode cL_account 11 = .ok (.invokevirtual 25, 3) := by decide +kernel
theorem dL_account_19 : decode cL_account 19 = .ok (.astore 7, 2) := by decide +kernel
theorem dL_account_21 : decode cL_account 21 = .ok (.iconst 1, 1) := by decide +kernel
theorem dL_account_22 : decode cL_account 22 = .ok (.ireturn, 1) := by decide +kernel
theorem dL_accountOf_0 : decode cL_accountOf 0 = .ok (.aload_n 3, 1) := by decide +kernel
theorem dL_accountOf_1 : decode cL_accountOf 1 = .ok (.iconst 0, 1) := by decide +kernel
theorem dL_accountOf_2 : decode cL_accountOf 2 = .ok (.aload_n 0, 1) := by decide +kernel
theorem dL_accountOf_3 : decode cL_accountOf 3 = .ok (.iload_n 1, 1) := by decide +kernel
theorem dL_accountOf_4 : decode cL_accountOf 4 = .ok (.iload_n 2, 1) := by decide +kernel
theorem dL_accountOf_5 : decode cL_accountOf 5 = .ok (.invokevirtual 73, 3) := by decide +kernel
theorem dL_accountOf_13 : decode cL_accountOf 13 = .ok (.astore 4, 2) := by decide +kernel
theorem dL_accountOf_15 : decode cL_accountOf 15 = .ok (.iconst 1, 1) := by decide +kernel
theorem dL_accountOf_16 : decode cL_accountOf 16 = .ok (.ireturn, 1) := by decide +kernel
theorem dL_after_0 : decode cL_after 0 = .ok (.aload 4, 2) := by decide +kernel
theorem dL_after_2 : decode cL_after 2 = .ok (.iconst 0, 1) := by decide +kernel
theorem dL_after_3 : decode cL_after 3 = .ok (.aload_n 0, 1) := by decide +kernel
theorem dL_after_4 : decode cL_after 4 = .ok (.iload_n 1, 1) := by decide +kernel
theorem dL_after_5 : decode cL_after 5 = .ok (.iload_n 2, 1) := by decide +kernel
theorem dL_after_6 : decode cL_after 6 = .ok (.iload_n 3, 1) := by decide +kernel
theorem dL_after_7 : decode cL_after 7 = .ok (.invokevirtual 95, 3) := by decide +kernel
theorem dL_after_15 : decode cL_after 15 = .ok (.astore 5, 2) := by decide +kernel
theorem dL_after_17 : decode cL_after 17 = .ok (.iconst 1, 1) := by decide +kernel
theorem dL_after_18 : decode cL_after 18 = .ok (.ireturn, 1) := by decide +kernel
theorem dL_arrives_0 : decode cL_arrives 0 = .ok (.aload 4, 2) := by decide +kernel
theorem dL_arrives_2 : decode cL_arrives 2 = .ok (.iconst 0, 1) := by decide +kernel
theorem dL_arrives_3 : decode cL_arrives 3 = .ok (.aload_n 0, 1) := by decide +kernel
theorem dL_arrives_4 : decode cL_arrives 4 = .ok (.iload_n 1, 1) := by decide +kernel
theorem dL_arrives_5 : decode cL_arrives 5 = .ok (.iload_n 2, 1) := by decide +kernel
theorem dL_arrives_6 : decode cL_arrives 6 = .ok (.iload_n 3, 1) := by decide +kernel
theorem dL_arrives_7 : decode cL_arrives 7 = .ok (.invokevirtual 126, 3) := by decide +kernel
theorem dL_arrives_15 : decode cL_arrives 15 = .ok (.astore 5, 2) := by decide +kernel
theorem dL_arrives_17 : decode cL_arrives 17 = .ok (.iconst 1, 1) := by decide +kernel
theorem dL_arrives_18 : decode cL_arrives 18 = .ok (.ireturn, 1) := by decide +kernel
theorem dL_ask_0 : decode cL_ask 0 = .ok (.aload 5, 2) := by decide +kernel
theorem dL_ask_2 : decode cL_ask 2 = .ok (.iconst 0, 1) := by decide +kernel
theorem dL_ask_3 : decode cL_ask 3 = .ok (.aload_n 0, 1) := by decide +kernel
theorem dL_ask_4 : decode cL_ask 4 = .ok (.iload_n 1, 1) := by decide +kernel
theorem dL_ask_5 : decode cL_ask 5 = .ok (.iload_n 2, 1) := by decide +kernel
theorem dL_ask_6 : decode cL_ask 6 = .ok (.iload_n 3, 1) := by decide +kernel
theorem dL_ask_7 : decode cL_ask 7 = .ok (.iload 4, 2) := by decide +kernel
theorem dL_ask_9 : decode cL_ask 9 = .ok (.invokevirtual 49, 3) := by decide +kernel
theorem dL_ask_17 : decode cL_ask 17 = .ok (.astore 6, 2) := by decide +kernel
theorem dL_ask_19 : decode cL_ask 19 = .ok (.iconst 1, 1) := by decide +kernel
theorem dL_ask_20 : decode cL_ask 20 = .ok (.ireturn, 1) := by decide +kernel
theorem dL_bank_0 : decode cL_bank 0 = .ok (.aload_n 2, 1) := by decide +kernel
theorem dL_bank_1 : decode cL_bank 1 = .ok (.iconst 0, 1) := by decide +kernel
theorem dL_bank_2 : decode cL_bank 2 = .ok (.aload_n 0, 1) := by decide +kernel
theorem dL_bank_3 : decode cL_bank 3 = .ok (.iload_n 1, 1) := by decide +kernel
theorem dL_bank_4 : decode cL_bank 4 = .ok (.invokevirtual 21, 3) := by decide +kernel
theorem dL_bank_12 : decode cL_bank 12 = .ok (.astore_n 3, 1) := by decide +kernel
theorem dL_bank_13 : decode cL_bank 13 = .ok (.iconst 1, 1) := by decide +kernel
theorem dL_bank_14 : decode cL_bank 14 = .ok (.ireturn, 1) := by decide +kernel
theorem dL_bankOf_0 : decode cL_bankOf 0 = .ok (.aload_n 3, 1) := by decide +kernel
theorem dL_bankOf_1 : decode cL_bankOf 1 = .ok (.iconst 0, 1) := by decide +kernel
theorem dL_bankOf_2 : decode cL_bankOf 2 = .ok (.aload_n 0, 1) := by decide +kernel
theorem dL_bankOf_3 : decode cL_bankOf 3 = .ok (.iload_n 1, 1) := by decide +kernel
theorem dL_bankOf_4 : decode cL_bankOf 4 = .ok (.iload_n 2, 1) := by decide +kernel
theorem dL_bankOf_5 : decode cL_bankOf 5 = .ok (.invokevirtual 153, 3) := by decide +kernel
theorem dL_bankOf_12 : decode cL_bankOf 12 = .ok (.astore 4, 2) := by decide +kernel
theorem dL_bankOf_14 : decode cL_bankOf 14 = .ok (.iconst 1, 1) := by decide +kernel
theorem dL_bankOf_15 : decode cL_bankOf 15 = .ok (.ireturn, 1) := by decide +kernel
theorem dL_bars_0 : decode cL_bars 0 = .ok (.aload_n 2, 1) := by decide +kernel
theorem dL_bars_1 : decode cL_bars 1 = .ok (.iconst 0, 1) := by decide +kernel
theorem dL_bars_2 : decode cL_bars 2 = .ok (.aload_n 0, 1) := by decide +kernel
theorem dL_bars_3 : decode cL_bars 3 = .ok (.iload_n 1, 1) := by decide +kernel
theorem dL_bars_4 : decode cL_bars 4 = .ok (.invokevirtual 141, 3) := by decide +kernel
theorem dL_bars_12 : decode cL_bars 12 = .ok (.astore_n 3, 1) := by decide +kernel
theorem dL_bars_13 : decode cL_bars 13 = .ok (.iconst 1, 1) := by decide +kernel
theorem dL_bars_14 : decode cL_bars 14 = .ok (.ireturn, 1) := by decide +kernel
theorem dL_busiest_0 : decode cL_busiest 0 = .ok (.aload_n 3, 1) := by decide +kernel
theorem dL_busiest_1 : decode cL_busiest 1 = .ok (.iconst 0, 1) := by decide +kernel
theorem dL_busiest_2 : decode cL_busiest 2 = .ok (.aload_n 0, 1) := by decide +kernel
theorem dL_busiest_3 : decode cL_busiest 3 = .ok (.iload_n 1, 1) := by decide +kernel
theorem dL_busiest_4 : decode cL_busiest 4 = .ok (.iload_n 2, 1) := by decide +kernel
theorem dL_busiest_5 : decode cL_busiest 5 = .ok (.invokevirtual 104, 3) := by decide +kernel
theorem dL_busiest_13 : decode cL_busiest 13 = .ok (.astore 4, 2) := by decide +kernel
theorem dL_busiest_15 : decode cL_busiest 15 = .ok (.iconst 1, 1) := by decide +kernel
theorem dL_busiest_16 : decode cL_busiest 16 = .ok (.ireturn, 1) := by decide +kernel
theorem dL_cheapest_0 : decode cL_cheapest 0 = .ok (.aload_n 2, 1) := by decide +kernel
theorem dL_cheapest_1 : decode cL_cheapest 1 = .ok (.iconst 0, 1) := by decide +kernel
theorem dL_cheapest_2 : decode cL_cheapest 2 = .ok (.aload_n 0, 1) := by decide +kernel
theorem dL_cheapest_3 : decode cL_cheapest 3 = .ok (.iload_n 1, 1) := by decide +kernel
theorem dL_cheapest_4 : decode cL_cheapest 4 = .ok (.invokevirtual 132, 3) := by decide +kernel
theorem dL_cheapest_12 : decode cL_cheapest 12 = .ok (.astore_n 3, 1) := by decide +kernel
theorem dL_cheapest_13 : decode cL_cheapest 13 = .ok (.iconst 1, 1) := by decide +kernel
theorem dL_cheapest_14 : decode cL_cheapest 14 = .ok (.ireturn, 1) := by decide +kernel
theorem dL_days_0 : decode cL_days 0 = .ok (.aload 4, 2) := by decide +kernel
theorem dL_days_2 : decode cL_days 2 = .ok (.iconst 0, 1) := by decide +kernel
theorem dL_days_3 : decode cL_days 3 = .ok (.aload_n 0, 1) := by decide +kernel
theorem dL_days_4 : decode cL_days 4 = .ok (.iload_n 1, 1) := by decide +kernel
theorem dL_days_5 : decode cL_days 5 = .ok (.iload_n 2, 1) := by decide +kernel
theorem dL_days_6 : decode cL_days 6 = .ok (.iload_n 3, 1) := by decide +kernel
theorem dL_days_7 : decode cL_days 7 = .ok (.invokevirtual 163, 3) := by decide +kernel
theorem dL_days_15 : decode cL_days 15 = .ok (.astore 5, 2) := by decide +kernel
theorem dL_days_17 : decode cL_days 17 = .ok (.iconst 1, 1) := by decide +kernel
theorem dL_days_18 : decode cL_days 18 = .ok (.ireturn, 1) := by decide +kernel
theorem dL_delay_0 : decode cL_delay 0 = .ok (.aload_n 2, 1) := by decide +kernel
theorem dL_delay_1 : decode cL_delay 1 = .ok (.iconst 0, 1) := by decide +kernel
theorem dL_delay_2 : decode cL_delay 2 = .ok (.aload_n 0, 1) := by decide +kernel
theorem dL_delay_3 : decode cL_delay 3 = .ok (.iload_n 1, 1) := by decide +kernel
theorem dL_delay_4 : decode cL_delay 4 = .ok (.invokevirtual 150, 3) := by decide +kernel
theorem dL_delay_12 : decode cL_delay 12 = .ok (.astore_n 3, 1) := by decide +kernel
theorem dL_delay_13 : decode cL_delay 13 = .ok (.iconst 1, 1) := by decide +kernel
theorem dL_delay_14 : decode cL_delay 14 = .ok (.ireturn, 1) := by decide +kernel
theorem dL_draw_0 : decode cL_draw 0 = .ok (.aload_n 3, 1) := by decide +kernel
theorem dL_draw_1 : decode cL_draw 1 = .ok (.iconst 0, 1) := by decide +kernel
theorem dL_draw_2 : decode cL_draw 2 = .ok (.aload_n 0, 1) := by decide +kernel
theorem dL_draw_3 : decode cL_draw 3 = .ok (.iload_n 1, 1) := by decide +kernel
theorem dL_draw_4 : decode cL_draw 4 = .ok (.iload_n 2, 1) := by decide +kernel
theorem dL_draw_5 : decode cL_draw 5 = .ok (.invokevirtual 39, 3) := by decide +kernel
theorem dL_draw_13 : decode cL_draw 13 = .ok (.astore 4, 2) := by decide +kernel
theorem dL_draw_15 : decode cL_draw 15 = .ok (.iconst 1, 1) := by decide +kernel
theorem dL_draw_16 : decode cL_draw 16 = .ok (.ireturn, 1) := by decide +kernel
theorem dL_due_0 : decode cL_due 0 = .ok (.aload_n 3, 1) := by decide +kernel
theorem dL_due_1 : decode cL_due 1 = .ok (.iconst 0, 1) := by decide +kernel
theorem dL_due_2 : decode cL_due 2 = .ok (.aload_n 0, 1) := by decide +kernel
theorem dL_due_3 : decode cL_due 3 = .ok (.iload_n 1, 1) := by decide +kernel
theorem dL_due_4 : decode cL_due 4 = .ok (.iload_n 2, 1) := by decide +kernel
theorem dL_due_5 : decode cL_due 5 = .ok (.invokevirtual 169, 3) := by decide +kernel
theorem dL_due_12 : decode cL_due 12 = .ok (.astore 4, 2) := by decide +kernel
theorem dL_due_14 : decode cL_due 14 = .ok (.iconst 1, 1) := by decide +kernel
theorem dL_due_15 : decode cL_due 15 = .ok (.ireturn, 1) := by decide +kernel
theorem dL_fee_0 : decode cL_fee 0 = .ok (.aload_n 3, 1) := by decide +kernel
theorem dL_fee_1 : decode cL_fee 1 = .ok (.iconst 0, 1) := by decide +kernel
theorem dL_fee_2 : decode cL_fee 2 = .ok (.aload_n 0, 1) := by decide +kernel
theorem dL_fee_3 : decode cL_fee 3 = .ok (.iload_n 1, 1) := by decide +kernel
theorem dL_fee_4 : decode cL_fee 4 = .ok (.iload_n 2, 1) := by decide +kernel
theorem dL_fee_5 : decode cL_fee 5 = .ok (.invokevirtual 85, 3) := by decide +kernel
theorem dL_fee_13 : decode cL_fee 13 = .ok (.astore 4, 2) := by decide +kernel
theorem dL_fee_15 : decode cL_fee 15 = .ok (.iconst 1, 1) := by decide +kernel
theorem dL_fee_16 : decode cL_fee 16 = .ok (.ireturn, 1) := by decide +kernel
theorem dL_fewest_0 : decode cL_fewest 0 = .ok (.aload_n 2, 1) := by decide +kernel
theorem dL_fewest_1 : decode cL_fewest 1 = .ok (.iconst 0, 1) := by decide +kernel
theorem dL_fewest_2 : decode cL_fewest 2 = .ok (.aload_n 0, 1) := by decide +kernel
theorem dL_fewest_3 : decode cL_fewest 3 = .ok (.iload_n 1, 1) := by decide +kernel
theorem dL_fewest_4 : decode cL_fewest 4 = .ok (.invokevirtual 147, 3) := by decide +kernel
theorem dL_fewest_12 : decode cL_fewest 12 = .ok (.astore_n 3, 1) := by decide +kernel
theorem dL_fewest_13 : decode cL_fewest 13 = .ok (.iconst 1, 1) := by decide +kernel
theorem dL_fewest_14 : decode cL_fewest 14 = .ok (.ireturn, 1) := by decide +kernel
theorem dL_forecast_0 : decode cL_forecast 0 = .ok (.aload_n 3, 1) := by decide +kernel
theorem dL_forecast_1 : decode cL_forecast 1 = .ok (.iconst 0, 1) := by decide +kernel
theorem dL_forecast_2 : decode cL_forecast 2 = .ok (.aload_n 0, 1) := by decide +kernel
theorem dL_forecast_3 : decode cL_forecast 3 = .ok (.iload_n 1, 1) := by decide +kernel
theorem dL_forecast_4 : decode cL_forecast 4 = .ok (.iload_n 2, 1) := by decide +kernel
theorem dL_forecast_5 : decode cL_forecast 5 = .ok (.invokevirtual 114, 3) := by decide +kernel
theorem dL_forecast_13 : decode cL_forecast 13 = .ok (.astore 4, 2) := by decide +kernel
theorem dL_forecast_15 : decode cL_forecast 15 = .ok (.iconst 1, 1) := by decide +kernel
theorem dL_forecast_16 : decode cL_forecast 16 = .ok (.ireturn, 1) := by decide +kernel
theorem dL_fund_0 : decode cL_fund 0 = .ok (.aload_n 3, 1) := by decide +kernel
theorem dL_fund_1 : decode cL_fund 1 = .ok (.iconst 0, 1) := by decide +kernel
theorem dL_fund_2 : decode cL_fund 2 = .ok (.aload_n 0, 1) := by decide +kernel
theorem dL_fund_3 : decode cL_fund 3 = .ok (.iload_n 1, 1) := by decide +kernel
theorem dL_fund_4 : decode cL_fund 4 = .ok (.iload_n 2, 1) := by decide +kernel
theorem dL_fund_5 : decode cL_fund 5 = .ok (.invokevirtual 36, 3) := by decide +kernel
theorem dL_fund_13 : decode cL_fund 13 = .ok (.astore 4, 2) := by decide +kernel
theorem dL_fund_15 : decode cL_fund 15 = .ok (.iconst 1, 1) := by decide +kernel
theorem dL_fund_16 : decode cL_fund 16 = .ok (.ireturn, 1) := by decide +kernel
theorem dL_go_0 : decode cL_go 0 = .ok (.aload_n 2, 1) := by decide +kernel
theorem dL_go_1 : decode cL_go 1 = .ok (.iconst 0, 1) := by decide +kernel
theorem dL_go_2 : decode cL_go 2 = .ok (.aload_n 0, 1) := by decide +kernel
theorem dL_go_3 : decode cL_go 3 = .ok (.iload_n 1, 1) := by decide +kernel
theorem dL_go_4 : decode cL_go 4 = .ok (.invokevirtual 46, 3) := by decide +kernel
theorem dL_go_7 : decode cL_go 7 = .ok (.i2l, 1) := by decide +kernel
theorem dL_go_8 : decode cL_go 8 = .ok (.lastore, 1) := by decide +kernel
theorem dL_go_9 : decode cL_go 9 = .ok (.goto 6, 3) := by decide +kernel
theorem dL_go_12 : decode cL_go 12 = .ok (.astore_n 3, 1) := by decide +kernel
theorem dL_go_13 : decode cL_go 13 = .ok (.iconst 1, 1) := by decide +kernel
theorem dL_go_14 : decode cL_go 14 = .ok (.ireturn, 1) := by decide +kernel
theorem dL_go_15 : decode cL_go 15 = .ok (.iconst 0, 1) := by decide +kernel
theorem dL_go_16 : decode cL_go 16 = .ok (.ireturn, 1) := by decide +kernel
theorem dL_holiday_0 : decode cL_holiday 0 = .ok (.aload_n 3, 1) := by decide +kernel
theorem dL_holiday_1 : decode cL_holiday 1 = .ok (.iconst 0, 1) := by decide +kernel
theorem dL_holiday_2 : decode cL_holiday 2 = .ok (.aload_n 0, 1) := by decide +kernel
theorem dL_holiday_3 : decode cL_holiday 3 = .ok (.iload_n 1, 1) := by decide +kernel
theorem dL_holiday_4 : decode cL_holiday 4 = .ok (.iload_n 2, 1) := by decide +kernel
theorem dL_holiday_5 : decode cL_holiday 5 = .ok (.invokevirtual 15, 3) := by decide +kernel
theorem dL_holiday_13 : decode cL_holiday 13 = .ok (.astore 4, 2) := by decide +kernel
theorem dL_holiday_15 : decode cL_holiday 15 = .ok (.iconst 1, 1) := by decide +kernel
theorem dL_holiday_16 : decode cL_holiday 16 = .ok (.ireturn, 1) := by decide +kernel
theorem dL_hours_0 : decode cL_hours 0 = .ok (.aload_n 3, 1) := by decide +kernel
theorem dL_hours_1 : decode cL_hours 1 = .ok (.iconst 0, 1) := by decide +kernel
theorem dL_hours_2 : decode cL_hours 2 = .ok (.aload_n 0, 1) := by decide +kernel
theorem dL_hours_3 : decode cL_hours 3 = .ok (.iload_n 1, 1) := by decide +kernel
theorem dL_hours_4 : decode cL_hours 4 = .ok (.iload_n 2, 1) := by decide +kernel
theorem dL_hours_5 : decode cL_hours 5 = .ok (.invokevirtual 101, 3) := by decide +kernel
theorem dL_hours_13 : decode cL_hours 13 = .ok (.astore 4, 2) := by decide +kernel
theorem dL_hours_15 : decode cL_hours 15 = .ok (.iconst 1, 1) := by decide +kernel
theorem dL_hours_16 : decode cL_hours 16 = .ok (.ireturn, 1) := by decide +kernel
theorem dL_idle_0 : decode cL_idle 0 = .ok (.aload_n 3, 1) := by decide +kernel
theorem dL_idle_1 : decode cL_idle 1 = .ok (.iconst 0, 1) := by decide +kernel
theorem dL_idle_2 : decode cL_idle 2 = .ok (.aload_n 0, 1) := by decide +kernel
theorem dL_idle_3 : decode cL_idle 3 = .ok (.iload_n 1, 1) := by decide +kernel
theorem dL_idle_4 : decode cL_idle 4 = .ok (.iload_n 2, 1) := by decide +kernel
theorem dL_idle_5 : decode cL_idle 5 = .ok (.invokevirtual 98, 3) := by decide +kernel
theorem dL_idle_13 : decode cL_idle 13 = .ok (.astore 4, 2) := by decide +kernel
theorem dL_idle_15 : decode cL_idle 15 = .ok (.iconst 1, 1) := by decide +kernel
theorem dL_idle_16 : decode cL_idle 16 = .ok (.ireturn, 1) := by decide +kernel
theorem dL_late_0 : decode cL_late 0 = .ok (.aload_n 2, 1) := by decide +kernel
theorem dL_late_1 : decode cL_late 1 = .ok (.iconst 0, 1) := by decide +kernel
theorem dL_late_2 : decode cL_late 2 = .ok (.aload_n 0, 1) := by decide +kernel
theorem dL_late_3 : decode cL_late 3 = .ok (.iload_n 1, 1) := by decide +kernel
theorem dL_late_4 : decode cL_late 4 = .ok (.invokevirtual 120, 3) := by decide +kernel
theorem dL_late_12 : decode cL_late 12 = .ok (.astore_n 3, 1) := by decide +kernel
theorem dL_late_13 : decode cL_late 13 = .ok (.iconst 1, 1) := by decide +kernel
theorem dL_late_14 : decode cL_late 14 = .ok (.ireturn, 1) := by decide +kernel
theorem dL_latest_0 : decode cL_latest 0 = .ok (.aload_n 2, 1) := by decide +kernel
theorem dL_latest_1 : decode cL_latest 1 = .ok (.iconst 0, 1) := by decide +kernel
theorem dL_latest_2 : decode cL_latest 2 = .ok (.aload_n 0, 1) := by decide +kernel
theorem dL_latest_3 : decode cL_latest 3 = .ok (.iload_n 1, 1) := by decide +kernel
theorem dL_latest_4 : decode cL_latest 4 = .ok (.invokevirtual 135, 3) := by decide +kernel
theorem dL_latest_12 : decode cL_latest 12 = .ok (.astore_n 3, 1) := by decide +kernel
theorem dL_latest_13 : decode cL_latest 13 = .ok (.iconst 1, 1) := by decide +kernel
theorem dL_latest_14 : decode cL_latest 14 = .ok (.ireturn, 1) := by decide +kernel
theorem dL_leaves_0 : decode cL_leaves 0 = .ok (.aload 4, 2) := by decide +kernel
theorem dL_leaves_2 : decode cL_leaves 2 = .ok (.iconst 0, 1) := by decide +kernel
theorem dL_leaves_3 : decode cL_leaves 3 = .ok (.aload_n 0, 1) := by decide +kernel
theorem dL_leaves_4 : decode cL_leaves 4 = .ok (.iload_n 1, 1) := by decide +kernel
theorem dL_leaves_5 : decode cL_leaves 5 = .ok (.iload_n 2, 1) := by decide +kernel
theorem dL_leaves_6 : decode cL_leaves 6 = .ok (.iload_n 3, 1) := by decide +kernel
theorem dL_leaves_7 : decode cL_leaves 7 = .ok (.invokevirtual 123, 3) := by decide +kernel
theorem dL_leaves_15 : decode cL_leaves 15 = .ok (.astore 5, 2) := by decide +kernel
theorem dL_leaves_17 : decode cL_leaves 17 = .ok (.iconst 1, 1) := by decide +kernel
theorem dL_leaves_18 : decode cL_leaves 18 = .ok (.ireturn, 1) := by decide +kernel
theorem dL_leg_0 : decode cL_leg 0 = .ok (.aload 4, 2) := by decide +kernel
theorem dL_leg_2 : decode cL_leg 2 = .ok (.iconst 0, 1) := by decide +kernel
theorem dL_leg_3 : decode cL_leg 3 = .ok (.aload_n 0, 1) := by decide +kernel
theorem dL_leg_4 : decode cL_leg 4 = .ok (.iload_n 1, 1) := by decide +kernel
theorem dL_leg_5 : decode cL_leg 5 = .ok (.iload_n 2, 1) := by decide +kernel
theorem dL_leg_6 : decode cL_leg 6 = .ok (.iload_n 3, 1) := by decide +kernel
theorem dL_leg_7 : decode cL_leg 7 = .ok (.invokevirtual 79, 3) := by decide +kernel
theorem dL_leg_15 : decode cL_leg 15 = .ok (.astore 5, 2) := by decide +kernel
theorem dL_leg_17 : decode cL_leg 17 = .ok (.iconst 1, 1) := by decide +kernel
theorem dL_leg_18 : decode cL_leg 18 = .ok (.ireturn, 1) := by decide +kernel
theorem dL_limits_0 : decode cL_limits 0 = .ok (.aload 4, 2) := by decide +kernel
theorem dL_limits_2 : decode cL_limits 2 = .ok (.iconst 0, 1) := by decide +kernel
theorem dL_limits_3 : decode cL_limits 3 = .ok (.aload_n 0, 1) := by decide +kernel
theorem dL_limits_4 : decode cL_limits 4 = .ok (.iload_n 1, 1) := by decide +kernel
theorem dL_limits_5 : decode cL_limits 5 = .ok (.iload_n 2, 1) := by decide +kernel
theorem dL_limits_6 : decode cL_limits 6 = .ok (.iload_n 3, 1) := by decide +kernel
theorem dL_limits_7 : decode cL_limits 7 = .ok (.invokevirtual 32, 3) := by decide +kernel
theorem dL_limits_15 : decode cL_limits 15 = .ok (.astore 5, 2) := by decide +kernel
theorem dL_limits_17 : decode cL_limits 17 = .ok (.iconst 1, 1) := by decide +kernel
theorem dL_limits_18 : decode cL_limits 18 = .ok (.ireturn, 1) := by decide +kernel
theorem dL_line_0 : decode cL_line 0 = .ok (.aload 4, 2) := by decide +kernel
theorem dL_line_2 : decode cL_line 2 = .ok (.iconst 0, 1) := by decide +kernel
theorem dL_line_3 : decode cL_line 3 = .ok (.aload_n 0, 1) := by decide +kernel
theorem dL_line_4 : decode cL_line 4 = .ok (.iload_n 1, 1) := by decide +kernel
theorem dL_line_5 : decode cL_line 5 = .ok (.iload_n 2, 1) := by decide +kernel
theorem dL_line_6 : decode cL_line 6 = .ok (.iload_n 3, 1) := by decide +kernel
theorem dL_line_7 : decode cL_line 7 = .ok (.invokevirtual 111, 3) := by decide +kernel
theorem dL_line_15 : decode cL_line 15 = .ok (.astore 5, 2) := by decide +kernel
theorem dL_line_17 : decode cL_line 17 = .ok (.iconst 1, 1) := by decide +kernel
theorem dL_line_18 : decode cL_line 18 = .ok (.ireturn, 1) := by decide +kernel
theorem dL_lowest_0 : decode cL_lowest 0 = .ok (.aload_n 3, 1) := by decide +kernel
theorem dL_lowest_1 : decode cL_lowest 1 = .ok (.iconst 0, 1) := by decide +kernel
theorem dL_lowest_2 : decode cL_lowest 2 = .ok (.aload_n 0, 1) := by decide +kernel
theorem dL_lowest_3 : decode cL_lowest 3 = .ok (.iload_n 1, 1) := by decide +kernel
theorem dL_lowest_4 : decode cL_lowest 4 = .ok (.iload_n 2, 1) := by decide +kernel
theorem dL_lowest_5 : decode cL_lowest 5 = .ok (.invokevirtual 117, 3) := by decide +kernel
theorem dL_lowest_13 : decode cL_lowest 13 = .ok (.astore 4, 2) := by decide +kernel
theorem dL_lowest_15 : decode cL_lowest 15 = .ok (.iconst 1, 1) := by decide +kernel
theorem dL_lowest_16 : decode cL_lowest 16 = .ok (.ireturn, 1) := by decide +kernel
theorem dL_most_0 : decode cL_most 0 = .ok (.aload_n 2, 1) := by decide +kernel
theorem dL_most_1 : decode cL_most 1 = .ok (.iconst 0, 1) := by decide +kernel
theorem dL_most_2 : decode cL_most 2 = .ok (.aload_n 0, 1) := by decide +kernel
theorem dL_most_3 : decode cL_most 3 = .ok (.iload_n 1, 1) := by decide +kernel
theorem dL_most_4 : decode cL_most 4 = .ok (.invokevirtual 138, 3) := by decide +kernel
theorem dL_most_12 : decode cL_most 12 = .ok (.astore_n 3, 1) := by decide +kernel
theorem dL_most_13 : decode cL_most 13 = .ok (.iconst 1, 1) := by decide +kernel
theorem dL_most_14 : decode cL_most 14 = .ok (.ireturn, 1) := by decide +kernel
theorem dL_needs_0 : decode cL_needs 0 = .ok (.aload_n 3, 1) := by decide +kernel
theorem dL_needs_1 : decode cL_needs 1 = .ok (.iconst 0, 1) := by decide +kernel
theorem dL_needs_2 : decode cL_needs 2 = .ok (.aload_n 0, 1) := by decide +kernel
theorem dL_needs_3 : decode cL_needs 3 = .ok (.iload_n 1, 1) := by decide +kernel
theorem dL_needs_4 : decode cL_needs 4 = .ok (.iload_n 2, 1) := by decide +kernel
theorem dL_needs_5 : decode cL_needs 5 = .ok (.invokevirtual 172, 3) := by decide +kernel
theorem dL_needs_13 : decode cL_needs 13 = .ok (.astore 4, 2) := by decide +kernel
theorem dL_needs_15 : decode cL_needs 15 = .ok (.iconst 1, 1) := by decide +kernel
theorem dL_needs_16 : decode cL_needs 16 = .ok (.ireturn, 1) := by decide +kernel
theorem dL_next_0 : decode cL_next 0 = .ok (.aload_n 3, 1) := by decide +kernel
theorem dL_next_1 : decode cL_next 1 = .ok (.iconst 0, 1) := by decide +kernel
theorem dL_next_2 : decode cL_next 2 = .ok (.aload_n 0, 1) := by decide +kernel
theorem dL_next_3 : decode cL_next 3 = .ok (.iload_n 1, 1) := by decide +kernel
theorem dL_next_4 : decode cL_next 4 = .ok (.iload_n 2, 1) := by decide +kernel
theorem dL_next_5 : decode cL_next 5 = .ok (.invokevirtual 92, 3) := by decide +kernel
theorem dL_next_13 : decode cL_next 13 = .ok (.astore 4, 2) := by decide +kernel
theorem dL_next_15 : decode cL_next 15 = .ok (.iconst 1, 1) := by decide +kernel
theorem dL_next_16 : decode cL_next 16 = .ok (.ireturn, 1) := by decide +kernel
theorem dL_open_0 : decode cL_open 0 = .ok (.aload_n 3, 1) := by decide +kernel
theorem dL_open_1 : decode cL_open 1 = .ok (.iconst 0, 1) := by decide +kernel
theorem dL_open_2 : decode cL_open 2 = .ok (.aload_n 0, 1) := by decide +kernel
theorem dL_open_3 : decode cL_open 3 = .ok (.iload_n 1, 1) := by decide +kernel
theorem dL_open_4 : decode cL_open 4 = .ok (.iload_n 2, 1) := by decide +kernel
theorem dL_open_5 : decode cL_open 5 = .ok (.invokevirtual 88, 3) := by decide +kernel
theorem dL_open_20 : decode cL_open 20 = .ok (.astore 4, 2) := by decide +kernel
theorem dL_open_22 : decode cL_open 22 = .ok (.iconst 1, 1) := by decide +kernel
theorem dL_open_23 : decode cL_open 23 = .ok (.ireturn, 1) := by decide +kernel
theorem dL_pay_0 : decode cL_pay 0 = .ok (.aload_n 2, 1) := by decide +kernel
theorem dL_pay_1 : decode cL_pay 1 = .ok (.iconst 0, 1) := by decide +kernel
theorem dL_pay_2 : decode cL_pay 2 = .ok (.aload_n 0, 1) := by decide +kernel
theorem dL_pay_3 : decode cL_pay 3 = .ok (.iload_n 1, 1) := by decide +kernel
theorem dL_pay_4 : decode cL_pay 4 = .ok (.invokevirtual 58, 3) := by decide +kernel
theorem dL_pay_12 : decode cL_pay 12 = .ok (.astore_n 3, 1) := by decide +kernel
theorem dL_pay_13 : decode cL_pay 13 = .ok (.iconst 1, 1) := by decide +kernel
theorem dL_pay_14 : decode cL_pay 14 = .ok (.ireturn, 1) := by decide +kernel
theorem dL_payment_0 : decode cL_payment 0 = .ok (.aload_n 3, 1) := by decide +kernel
theorem dL_payment_1 : decode cL_payment 1 = .ok (.iconst 0, 1) := by decide +kernel
theorem dL_payment_2 : decode cL_payment 2 = .ok (.aload_n 0, 1) := by decide +kernel
theorem dL_payment_3 : decode cL_payment 3 = .ok (.iload_n 1, 1) := by decide +kernel
theorem dL_payment_4 : decode cL_payment 4 = .ok (.iload_n 2, 1) := by decide +kernel
theorem dL_payment_5 : decode cL_payment 5 = .ok (.invokevirtual 76, 3) := by decide +kernel
theorem dL_payment_13 : decode cL_payment 13 = .ok (.astore 4, 2) := by decide +kernel
theorem dL_payment_15 : decode cL_payment 15 = .ok (.iconst 1, 1) := by decide +kernel
theorem dL_payment_16 : decode cL_payment 16 = .ok (.ireturn, 1) := by decide +kernel
theorem dL_place_0 : decode cL_place 0 = .ok (.aload 5, 2) := by decide +kernel
theorem dL_place_2 : decode cL_place 2 = .ok (.iconst 0, 1) := by decide +kernel
theorem dL_place_3 : decode cL_place 3 = .ok (.aload_n 0, 1) := by decide +kernel
theorem dL_place_4 : decode cL_place 4 = .ok (.iload_n 1, 1) := by decide +kernel
theorem dL_place_5 : decode cL_place 5 = .ok (.iload_n 2, 1) := by decide +kernel
theorem dL_place_6 : decode cL_place 6 = .ok (.iload_n 3, 1) := by decide +kernel
theorem dL_place_7 : decode cL_place 7 = .ok (.iload 4, 2) := by decide +kernel
theorem dL_place_9 : decode cL_place 9 = .ok (.invokevirtual 7, 3) := by decide +kernel
theorem dL_place_12 : decode cL_place 12 = .ok (.i2l, 1) := by decide +kernel
theorem dL_place_13 : decode cL_place 13 = .ok (.lastore, 1) := by decide +kernel
theorem dL_place_14 : decode cL_place 14 = .ok (.goto 7, 3) := by decide +kernel
theorem dL_place_17 : decode cL_place 17 = .ok (.astore 6, 2) := by decide +kernel
theorem dL_place_19 : decode cL_place 19 = .ok (.iconst 1, 1) := by decide +kernel
theorem dL_place_20 : decode cL_place 20 = .ok (.ireturn, 1) := by decide +kernel
theorem dL_place_21 : decode cL_place 21 = .ok (.iconst 0, 1) := by decide +kernel
theorem dL_place_22 : decode cL_place 22 = .ok (.ireturn, 1) := by decide +kernel
theorem dL_placeOf_0 : decode cL_placeOf 0 = .ok (.aload_n 3, 1) := by decide +kernel
theorem dL_placeOf_1 : decode cL_placeOf 1 = .ok (.iconst 0, 1) := by decide +kernel
theorem dL_placeOf_2 : decode cL_placeOf 2 = .ok (.aload_n 0, 1) := by decide +kernel
theorem dL_placeOf_3 : decode cL_placeOf 3 = .ok (.iload_n 1, 1) := by decide +kernel
theorem dL_placeOf_4 : decode cL_placeOf 4 = .ok (.iload_n 2, 1) := by decide +kernel
theorem dL_placeOf_5 : decode cL_placeOf 5 = .ok (.invokevirtual 70, 3) := by decide +kernel
theorem dL_placeOf_13 : decode cL_placeOf 13 = .ok (.astore 4, 2) := by decide +kernel
theorem dL_placeOf_15 : decode cL_placeOf 15 = .ok (.iconst 1, 1) := by decide +kernel
theorem dL_placeOf_16 : decode cL_placeOf 16 = .ok (.ireturn, 1) := by decide +kernel
theorem dL_reach_0 : decode cL_reach 0 = .ok (.aload 4, 2) := by decide +kernel
theorem dL_reach_2 : decode cL_reach 2 = .ok (.iconst 0, 1) := by decide +kernel
theorem dL_reach_3 : decode cL_reach 3 = .ok (.aload_n 0, 1) := by decide +kernel
theorem dL_reach_4 : decode cL_reach 4 = .ok (.iload_n 1, 1) := by decide +kernel
theorem dL_reach_5 : decode cL_reach 5 = .ok (.iload_n 2, 1) := by decide +kernel
theorem dL_reach_6 : decode cL_reach 6 = .ok (.iload_n 3, 1) := by decide +kernel
theorem dL_reach_7 : decode cL_reach 7 = .ok (.invokevirtual 129, 3) := by decide +kernel
theorem dL_reach_15 : decode cL_reach 15 = .ok (.astore 5, 2) := by decide +kernel
theorem dL_reach_17 : decode cL_reach 17 = .ok (.iconst 1, 1) := by decide +kernel
theorem dL_reach_18 : decode cL_reach 18 = .ok (.ireturn, 1) := by decide +kernel
theorem dL_refuse_0 : decode cL_refuse 0 = .ok (.aload_n 2, 1) := by decide +kernel
theorem dL_refuse_1 : decode cL_refuse 1 = .ok (.iconst 0, 1) := by decide +kernel
theorem dL_refuse_2 : decode cL_refuse 2 = .ok (.aload_n 0, 1) := by decide +kernel
theorem dL_refuse_3 : decode cL_refuse 3 = .ok (.iload_n 1, 1) := by decide +kernel
theorem dL_refuse_4 : decode cL_refuse 4 = .ok (.invokevirtual 61, 3) := by decide +kernel
theorem dL_refuse_12 : decode cL_refuse 12 = .ok (.astore_n 3, 1) := by decide +kernel
theorem dL_refuse_13 : decode cL_refuse 13 = .ok (.iconst 1, 1) := by decide +kernel
theorem dL_refuse_14 : decode cL_refuse 14 = .ok (.ireturn, 1) := by decide +kernel
theorem dL_reroute_0 : decode cL_reroute 0 = .ok (.aload_n 2, 1) := by decide +kernel
theorem dL_reroute_1 : decode cL_reroute 1 = .ok (.iconst 0, 1) := by decide +kernel
theorem dL_reroute_2 : decode cL_reroute 2 = .ok (.aload_n 0, 1) := by decide +kernel
theorem dL_reroute_3 : decode cL_reroute 3 = .ok (.iload_n 1, 1) := by decide +kernel
theorem dL_reroute_4 : decode cL_reroute 4 = .ok (.invokevirtual 64, 3) := by decide +kernel
theorem dL_reroute_12 : decode cL_reroute 12 = .ok (.astore_n 3, 1) := by decide +kernel
theorem dL_reroute_13 : decode cL_reroute 13 = .ok (.iconst 1, 1) := by decide +kernel
theorem dL_reroute_14 : decode cL_reroute 14 = .ok (.ireturn, 1) := by decide +kernel
theorem dL_route_0 : decode cL_route 0 = .ok (.aload_n 3, 1) := by decide +kernel
theorem dL_route_1 : decode cL_route 1 = .ok (.iconst 0, 1) := by decide +kernel
theorem dL_route_2 : decode cL_route 2 = .ok (.aload_n 0, 1) := by decide +kernel
theorem dL_route_3 : decode cL_route 3 = .ok (.iload_n 1, 1) := by decide +kernel
theorem dL_route_4 : decode cL_route 4 = .ok (.iload_n 2, 1) := by decide +kernel
theorem dL_route_5 : decode cL_route 5 = .ok (.invokevirtual 52, 3) := by decide +kernel
theorem dL_route_13 : decode cL_route 13 = .ok (.astore 4, 2) := by decide +kernel
theorem dL_route_15 : decode cL_route 15 = .ok (.iconst 1, 1) := by decide +kernel
theorem dL_route_16 : decode cL_route 16 = .ok (.ireturn, 1) := by decide +kernel
theorem dL_shared_0 : decode cL_shared 0 = .ok (.aload_n 3, 1) := by decide +kernel
theorem dL_shared_1 : decode cL_shared 1 = .ok (.iconst 0, 1) := by decide +kernel
theorem dL_shared_2 : decode cL_shared 2 = .ok (.aload_n 0, 1) := by decide +kernel
theorem dL_shared_3 : decode cL_shared 3 = .ok (.iload_n 1, 1) := by decide +kernel
theorem dL_shared_4 : decode cL_shared 4 = .ok (.iload_n 2, 1) := by decide +kernel
theorem dL_shared_5 : decode cL_shared 5 = .ok (.invokevirtual 157, 3) := by decide +kernel
theorem dL_shared_12 : decode cL_shared 12 = .ok (.astore 4, 2) := by decide +kernel
theorem dL_shared_14 : decode cL_shared 14 = .ok (.iconst 1, 1) := by decide +kernel
theorem dL_shared_15 : decode cL_shared 15 = .ok (.ireturn, 1) := by decide +kernel
theorem dL_shut_0 : decode cL_shut 0 = .ok (.aload_n 3, 1) := by decide +kernel
theorem dL_shut_1 : decode cL_shut 1 = .ok (.iconst 0, 1) := by decide +kernel
theorem dL_shut_2 : decode cL_shut 2 = .ok (.aload_n 0, 1) := by decide +kernel
theorem dL_shut_3 : decode cL_shut 3 = .ok (.iload_n 1, 1) := by decide +kernel
theorem dL_shut_4 : decode cL_shut 4 = .ok (.iload_n 2, 1) := by decide +kernel
theorem dL_shut_5 : decode cL_shut 5 = .ok (.invokevirtual 42, 3) := by decide +kernel
theorem dL_shut_20 : decode cL_shut 20 = .ok (.astore 4, 2) := by decide +kernel
theorem dL_shut_22 : decode cL_shut 22 = .ok (.iconst 1, 1) := by decide +kernel
theorem dL_shut_23 : decode cL_shut 23 = .ok (.ireturn, 1) := by decide +kernel
theorem dL_soonest_0 : decode cL_soonest 0 = .ok (.aload_n 2, 1) := by decide +kernel
theorem dL_soonest_1 : decode cL_soonest 1 = .ok (.iconst 0, 1) := by decide +kernel
theorem dL_soonest_2 : decode cL_soonest 2 = .ok (.aload_n 0, 1) := by decide +kernel
theorem dL_soonest_3 : decode cL_soonest 3 = .ok (.iload_n 1, 1) := by decide +kernel
theorem dL_soonest_4 : decode cL_soonest 4 = .ok (.invokevirtual 144, 3) := by decide +kernel
theorem dL_soonest_12 : decode cL_soonest 12 = .ok (.astore_n 3, 1) := by decide +kernel
theorem dL_soonest_13 : decode cL_soonest 13 = .ok (.iconst 1, 1) := by decide +kernel
theorem dL_soonest_14 : decode cL_soonest 14 = .ok (.ireturn, 1) := by decide +kernel
theorem dL_step_0 : decode cL_step 0 = .ok (.aload 4, 2) := by decide +kernel
theorem dL_step_2 : decode cL_step 2 = .ok (.iconst 0, 1) := by decide +kernel
theorem dL_step_3 : decode cL_step 3 = .ok (.aload_n 0, 1) := by decide +kernel
theorem dL_step_4 : decode cL_step 4 = .ok (.iload_n 1, 1) := by decide +kernel
theorem dL_step_5 : decode cL_step 5 = .ok (.iload_n 2, 1) := by decide +kernel
theorem dL_step_6 : decode cL_step 6 = .ok (.iload_n 3, 1) := by decide +kernel
theorem dL_step_7 : decode cL_step 7 = .ok (.invokevirtual 55, 3) := by decide +kernel
theorem dL_step_15 : decode cL_step 15 = .ok (.astore 5, 2) := by decide +kernel
theorem dL_step_17 : decode cL_step 17 = .ok (.iconst 1, 1) := by decide +kernel
theorem dL_step_18 : decode cL_step 18 = .ok (.ireturn, 1) := by decide +kernel
theorem dL_terms_0 : decode cL_terms 0 = .ok (.aload 6, 2) := by decide +kernel
theorem dL_terms_2 : decode cL_terms 2 = .ok (.iconst 0, 1) := by decide +kernel
theorem dL_terms_3 : decode cL_terms 3 = .ok (.aload_n 0, 1) := by decide +kernel
theorem dL_terms_4 : decode cL_terms 4 = .ok (.iload_n 1, 1) := by decide +kernel
theorem dL_terms_5 : decode cL_terms 5 = .ok (.iload_n 2, 1) := by decide +kernel
theorem dL_terms_6 : decode cL_terms 6 = .ok (.iload_n 3, 1) := by decide +kernel
theorem dL_terms_7 : decode cL_terms 7 = .ok (.iload 4, 2) := by decide +kernel
theorem dL_terms_9 : decode cL_terms 9 = .ok (.iload 5, 2) := by decide +kernel
theorem dL_terms_11 : decode cL_terms 11 = .ok (.invokevirtual 29, 3) := by decide +kernel
theorem dL_terms_19 : decode cL_terms 19 = .ok (.astore 7, 2) := by decide +kernel
theorem dL_terms_21 : decode cL_terms 21 = .ok (.iconst 1, 1) := by decide +kernel
theorem dL_terms_22 : decode cL_terms 22 = .ok (.ireturn, 1) := by decide +kernel
theorem dL_tied_0 : decode cL_tied 0 = .ok (.aload_n 2, 1) := by decide +kernel
theorem dL_tied_1 : decode cL_tied 1 = .ok (.iconst 0, 1) := by decide +kernel
theorem dL_tied_2 : decode cL_tied 2 = .ok (.aload_n 0, 1) := by decide +kernel
theorem dL_tied_3 : decode cL_tied 3 = .ok (.iload_n 1, 1) := by decide +kernel
theorem dL_tied_4 : decode cL_tied 4 = .ok (.invokevirtual 107, 3) := by decide +kernel
theorem dL_tied_11 : decode cL_tied 11 = .ok (.astore_n 3, 1) := by decide +kernel
theorem dL_tied_12 : decode cL_tied 12 = .ok (.iconst 1, 1) := by decide +kernel
theorem dL_tied_13 : decode cL_tied 13 = .ok (.ireturn, 1) := by decide +kernel
theorem dL_tiedUp_0 : decode cL_tiedUp 0 = .ok (.aload_n 2, 1) := by decide +kernel
theorem dL_tiedUp_1 : decode cL_tiedUp 1 = .ok (.iconst 0, 1) := by decide +kernel
theorem dL_tiedUp_2 : decode cL_tiedUp 2 = .ok (.aload_n 0, 1) := by decide +kernel
theorem dL_tiedUp_3 : decode cL_tiedUp 3 = .ok (.iload_n 1, 1) := by decide +kernel
theorem dL_tiedUp_4 : decode cL_tiedUp 4 = .ok (.invokevirtual 160, 3) := by decide +kernel
theorem dL_tiedUp_11 : decode cL_tiedUp 11 = .ok (.astore_n 3, 1) := by decide +kernel
theorem dL_tiedUp_12 : decode cL_tiedUp 12 = .ok (.iconst 1, 1) := by decide +kernel
theorem dL_tiedUp_13 : decode cL_tiedUp 13 = .ok (.ireturn, 1) := by decide +kernel
theorem dL_told_0 : decode cL_told 0 = .ok (.aload_n 2, 1) := by decide +kernel
theorem dL_told_1 : decode cL_told 1 = .ok (.iconst 0, 1) := by decide +kernel
theorem dL_told_2 : decode cL_told 2 = .ok (.aload_n 0, 1) := by decide +kernel
theorem dL_told_3 : decode cL_told 3 = .ok (.iload_n 1, 1) := by decide +kernel
theorem dL_told_4 : decode cL_told 4 = .ok (.invokevirtual 67, 3) := by decide +kernel
theorem dL_told_7 : decode cL_told 7 = .ok (.i2l, 1) := by decide +kernel
theorem dL_told_8 : decode cL_told 8 = .ok (.lastore, 1) := by decide +kernel
theorem dL_told_9 : decode cL_told 9 = .ok (.goto 6, 3) := by decide +kernel
theorem dL_told_12 : decode cL_told 12 = .ok (.astore_n 3, 1) := by decide +kernel
theorem dL_told_13 : decode cL_told 13 = .ok (.iconst 1, 1) := by decide +kernel
theorem dL_told_14 : decode cL_told 14 = .ok (.ireturn, 1) := by decide +kernel
theorem dL_told_15 : decode cL_told 15 = .ok (.iconst 0, 1) := by decide +kernel
theorem dL_told_16 : decode cL_told 16 = .ok (.ireturn, 1) := by decide +kernel
theorem dL_until_0 : decode cL_until 0 = .ok (.aload_n 2, 1) := by decide +kernel
theorem dL_until_1 : decode cL_until 1 = .ok (.iconst 0, 1) := by decide +kernel
theorem dL_until_2 : decode cL_until 2 = .ok (.aload_n 0, 1) := by decide +kernel
theorem dL_until_3 : decode cL_until 3 = .ok (.iload_n 1, 1) := by decide +kernel
theorem dL_until_4 : decode cL_until 4 = .ok (.invokevirtual 166, 3) := by decide +kernel
theorem dL_until_7 : decode cL_until 7 = .ok (.i2l, 1) := by decide +kernel
theorem dL_until_8 : decode cL_until 8 = .ok (.lastore, 1) := by decide +kernel
theorem dL_until_9 : decode cL_until 9 = .ok (.goto 6, 3) := by decide +kernel
theorem dL_until_12 : decode cL_until 12 = .ok (.astore_n 3, 1) := by decide +kernel
theorem dL_until_13 : decode cL_until 13 = .ok (.iconst 1, 1) := by decide +kernel
theorem dL_until_14 : decode cL_until 14 = .ok (.ireturn, 1) := by decide +kernel
theorem dL_until_15 : decode cL_until 15 = .ok (.iconst 0, 1) := by decide +kernel
theorem dL_until_16 : decode cL_until 16 = .ok (.ireturn, 1) := by decide +kernel
theorem dL_used_0 : decode cL_used 0 = .ok (.aload_n 3, 1) := by decide +kernel
theorem dL_used_1 : decode cL_used 1 = .ok (.iconst 0, 1) := by decide +kernel
theorem dL_used_2 : decode cL_used 2 = .ok (.aload_n 0, 1) := by decide +kernel
theorem dL_used_3 : decode cL_used 3 = .ok (.iload_n 1, 1) := by decide +kernel
theorem dL_used_4 : decode cL_used 4 = .ok (.iload_n 2, 1) := by decide +kernel
theorem dL_used_5 : decode cL_used 5 = .ok (.invokevirtual 82, 3) := by decide +kernel
theorem dL_used_13 : decode cL_used 13 = .ok (.astore 4, 2) := by decide +kernel
theorem dL_used_15 : decode cL_used 15 = .ok (.iconst 1, 1) := by decide +kernel
theorem dL_used_16 : decode cL_used 16 = .ok (.ireturn, 1) := by decide +kernel
theorem dL_vital_0 : decode cL_vital 0 = .ok (.aload_n 1, 1) := by decide +kernel
theorem dL_vital_1 : decode cL_vital 1 = .ok (.iconst 0, 1) := by decide +kernel
theorem dL_vital_2 : decode cL_vital 2 = .ok (.aload_n 0, 1) := by decide +kernel
theorem dL_vital_3 : decode cL_vital 3 = .ok (.invokevirtual 178, 3) := by decide +kernel
theorem dL_vital_10 : decode cL_vital 10 = .ok (.astore_n 2, 1) := by decide +kernel
theorem dL_vital_11 : decode cL_vital 11 = .ok (.iconst 1, 1) := by decide +kernel
theorem dL_vital_12 : decode cL_vital 12 = .ok (.ireturn, 1) := by decide +kernel
theorem dL_without_0 : decode cL_without 0 = .ok (.aload_n 2, 1) := by decide +kernel
theorem dL_without_1 : decode cL_without 1 = .ok (.iconst 0, 1) := by decide +kernel
theorem dL_without_2 : decode cL_without 2 = .ok (.aload_n 0, 1) := by decide +kernel
theorem dL_without_3 : decode cL_without 3 = .ok (.iload_n 1, 1) := by decide +kernel
theorem dL_without_4 : decode cL_without 4 = .ok (.invokevirtual 175, 3) := by decide +kernel
theorem dL_without_12 : decode cL_without 12 = .ok (.astore_n 3, 1) := by decide +kernel
theorem dL_without_13 : decode cL_without 13 = .ok (.iconst 1, 1) := by decide +kernel
theorem dL_without_14 : decode cL_without 14 = .ok (.ireturn, 1) := by decide +kernel
theorem dX10_init_0 : decode cX10_init 0 = .ok (.aload_n 0, 1) := by decide +kernel
theorem dX10_init_1 : decode cX10_init 1 = .ok (.invokespecial 3, 3) := by decide +kernel
theorem dX10_init_4 : decode cX10_init 4 = .ok (.aload_n 0, 1) := by decide +kernel
theorem dX10_init_5 : decode cX10_init 5 = .ok (.bipush 6, 2) := by decide +kernel
theorem dX10_init_7 : decode cX10_init 7 = .ok (.bipush 16, 2) := by decide +kernel
theorem dX10_init_9 : decode cX10_init 9 = .ok (.multianewarray 9 2, 4) := by decide +kernel
theorem dX10_init_13 : decode cX10_init 13 = .ok (.putfield 11, 3) := by decide +kernel
theorem dX10_init_16 : decode cX10_init 16 = .ok (.aload_n 0, 1) := by decide +kernel
theorem dX10_init_17 : decode cX10_init 17 = .ok (.bipush 6, 2) := by decide +kernel
theorem dX10_init_19 : decode cX10_init 19 = .ok (.bipush 16, 2) := by decide +kernel
theorem dX10_init_21 : decode cX10_init 21 = .ok (.multianewarray 9 2, 4) := by decide +kernel
theorem dX10_init_25 : decode cX10_init 25 = .ok (.putfield 16, 3) := by decide +kernel
theorem dX10_init_28 : decode cX10_init 28 = .ok (.aload_n 0, 1) := by decide +kernel
theorem dX10_init_29 : decode cX10_init 29 = .ok (.aload_n 1, 1) := by decide +kernel
theorem dX10_init_30 : decode cX10_init 30 = .ok (.putfield 19, 3) := by decide +kernel
theorem dX10_init_33 : decode cX10_init 33 = .ok (.return_, 1) := by decide +kernel
theorem dX11_account_0 : decode cX11_account 0 = .ok (.aload_n 0, 1) := by decide +kernel
theorem dX11_account_1 : decode cX11_account 1 = .ok (.iload_n 1, 1) := by decide +kernel
theorem dX11_account_2 : decode cX11_account 2 = .ok (.invokevirtual 103, 3) := by decide +kernel
theorem dX11_accountAt_0 : decode cX11_accountAt 0 = .ok (.aload_n 0, 1) := by decide +kernel
theorem dX11_accountAt_1 : decode cX11_accountAt 1 = .ok (.iload_n 1, 1) := by decide +kernel
theorem dX11_accountAt_2 : decode cX11_accountAt 2 = .ok (.iconst 0, 1) := by decide +kernel
theorem dX11_accountAt_3 : decode cX11_accountAt 3 = .ok (.aload_n 0, 1) := by decide +kernel
theorem dX11_accountAt_4 : decode cX11_accountAt 4 = .ok (.getfield 10, 3) := by decide +kernel
theorem dX11_accountAt_7 : decode cX11_accountAt 7 = .ok (.getfield 264, 3) := by decide +kernel
theorem dX11_accountAt_10 : decode cX11_accountAt 10 = .ok (.iconst 1, 1) := by decide +kernel
theorem dX11_accountAt_11 : decode cX11_accountAt 11 = .ok (.isub, 1) := by decide +kernel
theorem dX11_accountAt_12 : decode cX11_accountAt 12 = .ok (.invokestatic 56, 3) := by decide +kernel
theorem dX11_accountAt_15 : decode cX11_accountAt 15 = .ok (.invokevirtual 186, 3) := by decide +kernel
theorem dX11_accountOf_0 : decode cX11_accountOf 0 = .ok (.aload_n 0, 1) := by decide +kernel
theorem dX11_accountOf_1 : decode cX11_accountOf 1 = .ok (.iload_n 1, 1) := by decide +kernel
theorem dX11_accountOf_2 : decode cX11_accountOf 2 = .ok (.invokevirtual 110, 3) := by decide +kernel
theorem dX11_after_0 : decode cX11_after 0 = .ok (.aload_n 0, 1) := by decide +kernel
theorem dX11_after_1 : decode cX11_after 1 = .ok (.iload_n 1, 1) := by decide +kernel
theorem dX11_after_2 : decode cX11_after 2 = .ok (.invokevirtual 68, 3) := by decide +kernel
theorem dX11_arrives_0 : decode cX11_arrives 0 = .ok (.aload_n 0, 1) := by decide +kernel
theorem dX11_arrives_1 : decode cX11_arrives 1 = .ok (.iload_n 1, 1) := by decide +kernel
theorem dX11_arrives_2 : decode cX11_arrives 2 = .ok (.invokevirtual 110, 3) := by decide +kernel
theorem dX11_ask_0 : decode cX11_ask 0 = .ok (.aload_n 0, 1) := by decide +kernel
theorem dX11_ask_1 : decode cX11_ask 1 = .ok (.iload_n 1, 1) := by decide +kernel
theorem dX11_ask_2 : decode cX11_ask 2 = .ok (.invokevirtual 103, 3) := by decide +kernel
theorem dX11_bank_0 : decode cX11_bank 0 = .ok (.aload_n 0, 1) := by decide +kernel
theorem dX11_bank_1 : decode cX11_bank 1 = .ok (.iload_n 1, 1) := by decide +kernel
theorem dX11_bank_2 : decode cX11_bank 2 = .ok (.invokevirtual 68, 3) := by decide +kernel
theorem dX11_bankOf_0 : decode cX11_bankOf 0 = .ok (.aload_n 0, 1) := by decide +kernel
theorem dX11_bankOf_1 : decode cX11_bankOf 1 = .ok (.iload_n 1, 1) := by decide +kernel
theorem dX11_bankOf_2 : decode cX11_bankOf 2 = .ok (.invokevirtual 103, 3) := by decide +kernel
theorem dX11_bars_0 : decode cX11_bars 0 = .ok (.aload_n 0, 1) := by decide +kernel
theorem dX11_bars_1 : decode cX11_bars 1 = .ok (.iload_n 1, 1) := by decide +kernel
theorem dX11_bars_2 : decode cX11_bars 2 = .ok (.invokevirtual 110, 3) := by decide +kernel
theorem dX11_busiest_0 : decode cX11_busiest 0 = .ok (.aload_n 0, 1) := by decide +kernel
theorem dX11_busiest_1 : decode cX11_busiest 1 = .ok (.iload_n 1, 1) := by decide +kernel
theorem dX11_busiest_2 : decode cX11_busiest 2 = .ok (.invokevirtual 110, 3) := by decide +kernel
theorem dX11_cheapest_0 : decode cX11_cheapest 0 = .ok (.aload_n 0, 1) := by decide +kernel
theorem dX11_cheapest_1 : decode cX11_cheapest 1 = .ok (.aload_n 0, 1) := by decide +kernel
theorem dX11_cheapest_2 : decode cX11_cheapest 2 = .ok (.getfield 177, 3) := by decide +kernel
theorem dX11_cheapest_5 : decode cX11_cheapest 5 = .ok (.ifCond .eq 14, 3) := by decide +kernel
theorem dX11_cheapest_19 : decode cX11_cheapest 19 = .ok (.iconst 0, 1) := by decide +kernel
theorem dX11_cheapest_20 : decode cX11_cheapest 20 = .ok (.invokevirtual 60, 3) := by decide +kernel
theorem dX11_days_0 : decode cX11_days 0 = .ok (.aload_n 0, 1) := by decide +kernel
theorem dX11_days_1 : decode cX11_days 1 = .ok (.iload_n 1, 1) := by decide +kernel
theorem dX11_days_2 : decode cX11_days 2 = .ok (.invokevirtual 68, 3) := by decide +kernel
theorem dX11_delay_0 : decode cX11_delay 0 = .ok (.aload_n 0, 1) := by decide +kernel
theorem dX11_delay_1 : decode cX11_delay 1 = .ok (.iload_n 1, 1) := by decide +kernel
theorem dX11_delay_2 : decode cX11_delay 2 = .ok (.invokevirtual 110, 3) := by decide +kernel
theorem dX11_draw_0 : decode cX11_draw 0 = .ok (.aload_n 0, 1) := by decide +kernel
theorem dX11_draw_1 : decode cX11_draw 1 = .ok (.iload_n 1, 1) := by decide +kernel
theorem dX11_draw_2 : decode cX11_draw 2 = .ok (.invokevirtual 110, 3) := by decide +kernel
theorem dX11_due_0 : decode cX11_due 0 = .ok (.aload_n 0, 1) := by decide +kernel
theorem dX11_due_1 : decode cX11_due 1 = .ok (.iload_n 1, 1) := by decide +kernel
theorem dX11_due_2 : decode cX11_due 2 = .ok (.invokevirtual 103, 3) := by decide +kernel
theorem dX11_fee_0 : decode cX11_fee 0 = .ok (.aload_n 0, 1) := by decide +kernel
theorem dX11_fee_1 : decode cX11_fee 1 = .ok (.iload_n 1, 1) := by decide +kernel
theorem dX11_fee_2 : decode cX11_fee 2 = .ok (.invokevirtual 110, 3) := by decide +kernel
theorem dX11_fewest_0 : decode cX11_fewest 0 = .ok (.aload_n 0, 1) := by decide +kernel
theorem dX11_fewest_1 : decode cX11_fewest 1 = .ok (.aload_n 0, 1) := by decide +kernel
theorem dX11_fewest_2 : decode cX11_fewest 2 = .ok (.getfield 177, 3) := by decide +kernel
theorem dX11_fewest_5 : decode cX11_fewest 5 = .ok (.ifCond .eq 14, 3) := by decide +kernel
theorem dX11_fewest_19 : decode cX11_fewest 19 = .ok (.iconst 0, 1) := by decide +kernel
theorem dX11_fewest_20 : decode cX11_fewest 20 = .ok (.invokevirtual 60, 3) := by decide +kernel
theorem dX11_forecast_0 : decode cX11_forecast 0 = .ok (.aload_n 0, 1) := by decide +kernel
theorem dX11_forecast_1 : decode cX11_forecast 1 = .ok (.iload_n 1, 1) := by decide +kernel
theorem dX11_forecast_2 : decode cX11_forecast 2 = .ok (.invokevirtual 110, 3) := by decide +kernel
theorem dX11_fund_0 : decode cX11_fund 0 = .ok (.aload_n 0, 1) := by decide +kernel
theorem dX11_fund_1 : decode cX11_fund 1 = .ok (.iload_n 1, 1) := by decide +kernel
theorem dX11_fund_2 : decode cX11_fund 2 = .ok (.invokevirtual 110, 3) := by decide +kernel
theorem dX11_go_0 : decode cX11_go 0 = .ok (.aload_n 0, 1) := by decide +kernel
theorem dX11_go_1 : decode cX11_go 1 = .ok (.iload_n 1, 1) := by decide +kernel
theorem dX11_go_2 : decode cX11_go 2 = .ok (.iconst 1, 1) := by decide +kernel
theorem dX11_go_3 : decode cX11_go 3 = .ok (.sipush 20160, 3) := by decide +kernel
theorem dX11_go_6 : decode cX11_go 6 = .ok (.invokestatic 56, 3) := by decide +kernel
theorem dX11_go_9 : decode cX11_go 9 = .ok (.invokevirtual 60, 3) := by decide +kernel
theorem dX11_go_12 : decode cX11_go 12 = .ok (.aload_n 0, 1) := by decide +kernel
theorem dX11_go_13 : decode cX11_go 13 = .ok (.getfield 10, 3) := by decide +kernel
theorem dX11_go_16 : decode cX11_go 16 = .ok (.getfield 78, 3) := by decide +kernel
theorem dX11_go_19 : decode cX11_go 19 = .ok (.ldc 169, 2) := by decide +kernel
theorem dX11_go_21 : decode cX11_go 21 = .ok (.iload_n 1, 1) := by decide +kernel
theorem dX11_go_22 : decode cX11_go 22 = .ok (.isub, 1) := by decide +kernel
theorem dX11_go_23 : decode cX11_go 23 = .ok (.if_icmp .le 5, 3) := by decide +kernel
theorem dX11_go_26 : decode cX11_go 26 = .ok (.iconst (-1), 1) := by decide +kernel
theorem dX11_go_27 : decode cX11_go 27 = .ok (.ireturn, 1) := by decide +kernel
theorem dX11_go_28 : decode cX11_go 28 = .ok (.aload_n 0, 1) := by decide +kernel
theorem dX11_go_29 : decode cX11_go 29 = .ok (.getfield 10, 3) := by decide +kernel
theorem dX11_go_32 : decode cX11_go 32 = .ok (.dup, 1) := by decide +kernel
theorem dX11_go_33 : decode cX11_go 33 = .ok (.getfield 78, 3) := by decide +kernel
theorem dX11_go_36 : decode cX11_go 36 = .ok (.iload_n 1, 1) := by decide +kernel
theorem dX11_go_37 : decode cX11_go 37 = .ok (.iadd, 1) := by decide +kernel
theorem dX11_go_38 : decode cX11_go 38 = .ok (.putfield 78, 3) := by decide +kernel
theorem dX11_go_41 : decode cX11_go 41 = .ok (.aload_n 0, 1) := by decide +kernel
theorem dX11_go_42 : decode cX11_go 42 = .ok (.iconst 0, 1) := by decide +kernel
theorem dX11_go_43 : decode cX11_go 43 = .ok (.putfield 96, 3) := by decide +kernel
theorem dX11_go_46 : decode cX11_go 46 = .ok (.aload_n 0, 1) := by decide +kernel
theorem dX11_go_47 : decode cX11_go 47 = .ok (.getfield 21, 3) := by decide +kernel
theorem dX11_go_50 : decode cX11_go 50 = .ok (.aload_n 0, 1) := by decide +kernel
theorem dX11_go_51 : decode cX11_go 51 = .ok (.getfield 10, 3) := by decide +kernel
theorem dX11_go_54 : decode cX11_go 54 = .ok (.getfield 78, 3) := by decide +kernel
theorem dX11_go_57 : decode cX11_go 57 = .ok (.invokevirtual 170, 3) := by decide +kernel
theorem dX11_go_60 : decode cX11_go 60 = .ok (.ireturn, 1) := by decide +kernel
theorem dX11_holiday_0 : decode cX11_holiday 0 = .ok (.aload_n 0, 1) := by decide +kernel
theorem dX11_holiday_1 : decode cX11_holiday 1 = .ok (.iload_n 1, 1) := by decide +kernel
theorem dX11_holiday_2 : decode cX11_holiday 2 = .ok (.invokevirtual 68, 3) := by decide +kernel
theorem dX11_hours_0 : decode cX11_hours 0 = .ok (.aload_n 0, 1) := by decide +kernel
theorem dX11_hours_1 : decode cX11_hours 1 = .ok (.iload_n 1, 1) := by decide +kernel
theorem dX11_hours_2 : decode cX11_hours 2 = .ok (.invokevirtual 110, 3) := by decide +kernel
theorem dX11_idle_0 : decode cX11_idle 0 = .ok (.aload_n 0, 1) := by decide +kernel
theorem dX11_idle_1 : decode cX11_idle 1 = .ok (.iload_n 1, 1) := by decide +kernel
theorem dX11_idle_2 : decode cX11_idle 2 = .ok (.invokevirtual 68, 3) := by decide +kernel
theorem dX11_init_0 : decode cX11_init 0 = .ok (.aload_n 0, 1) := by decide +kernel
theorem dX11_init_1 : decode cX11_init 1 = .ok (.invokespecial 1, 3) := by decide +kernel
theorem dX11_init_4 : decode cX11_init 4 = .ok (.aload_n 0, 1) := by decide +kernel
theorem dX11_init_5 : decode cX11_init 5 = .ok (.new 7, 3) := by decide +kernel
theorem dX11_init_8 : decode cX11_init 8 = .ok (.dup, 1) := by decide +kernel
theorem dX11_init_9 : decode cX11_init 9 = .ok (.invokespecial 9, 3) := by decide +kernel
theorem dX11_init_12 : decode cX11_init 12 = .ok (.putfield 10, 3) := by decide +kernel
theorem dX11_init_15 : decode cX11_init 15 = .ok (.aload_n 0, 1) := by decide +kernel
theorem dX11_init_16 : decode cX11_init 16 = .ok (.new 16, 3) := by decide +kernel
theorem dX11_init_19 : decode cX11_init 19 = .ok (.dup, 1) := by decide +kernel
theorem dX11_init_20 : decode cX11_init 20 = .ok (.aload_n 0, 1) := by decide +kernel
theorem dX11_init_21 : decode cX11_init 21 = .ok (.getfield 10, 3) := by decide +kernel
theorem dX11_init_24 : decode cX11_init 24 = .ok (.invokespecial 18, 3) := by decide +kernel
theorem dX11_init_27 : decode cX11_init 27 = .ok (.putfield 21, 3) := by decide +kernel
theorem dX11_init_30 : decode cX11_init 30 = .ok (.aload_n 0, 1) := by decide +kernel
theorem dX11_init_31 : decode cX11_init 31 = .ok (.new 25, 3) := by decide +kernel
theorem dX11_init_34 : decode cX11_init 34 = .ok (.dup, 1) := by decide +kernel
theorem dX11_init_35 : decode cX11_init 35 = .ok (.aload_n 0, 1) := by decide +kernel
theorem dX11_init_36 : decode cX11_init 36 = .ok (.getfield 10, 3) := by decide +kernel
theorem dX11_init_39 : decode cX11_init 39 = .ok (.invokespecial 27, 3) := by decide +kernel
theorem dX11_init_42 : decode cX11_init 42 = .ok (.putfield 28, 3) := by decide +kernel
theorem dX11_init_45 : decode cX11_init 45 = .ok (.aload_n 0, 1) := by decide +kernel
theorem dX11_init_46 : decode cX11_init 46 = .ok (.new 25, 3) := by decide +kernel
theorem dX11_init_49 : decode cX11_init 49 = .ok (.dup, 1) := by decide +kernel
theorem dX11_init_50 : decode cX11_init 50 = .ok (.aload_n 0, 1) := by decide +kernel
theorem dX11_init_51 : decode cX11_init 51 = .ok (.getfield 10, 3) := by decide +kernel
theorem dX11_init_54 : decode cX11_init 54 = .ok (.invokespecial 27, 3) := by decide +kernel
theorem dX11_init_57 : decode cX11_init 57 = .ok (.putfield 32, 3) := by decide +kernel
theorem dX11_init_60 : decode cX11_init 60 = .ok (.aload_n 0, 1) := by decide +kernel
theorem dX11_init_61 : decode cX11_init 61 = .ok (.new 35, 3) := by decide +kernel
theorem dX11_init_64 : decode cX11_init 64 = .ok (.dup, 1) := by decide +kernel
theorem dX11_init_65 : decode cX11_init 65 = .ok (.aload_n 0, 1) := by decide +kernel
theorem dX11_init_66 : decode cX11_init 66 = .ok (.getfield 10, 3) := by decide +kernel
theorem dX11_init_69 : decode cX11_init 69 = .ok (.invokespecial 37, 3) := by decide +kernel
theorem dX11_init_72 : decode cX11_init 72 = .ok (.putfield 38, 3) := by decide +kernel
theorem dX11_init_75 : decode cX11_init 75 = .ok (.aload_n 0, 1) := by decide +kernel
theorem dX11_init_76 : decode cX11_init 76 = .ok (.new 42, 3) := by decide +kernel
theorem dX11_init_79 : decode cX11_init 79 = .ok (.dup, 1) := by decide +kernel
theorem dX11_init_80 : decode cX11_init 80 = .ok (.aload_n 0, 1) := by decide +kernel
theorem dX11_init_81 : decode cX11_init 81 = .ok (.getfield 10, 3) := by decide +kernel
theorem dX11_init_84 : decode cX11_init 84 = .ok (.invokespecial 44, 3) := by decide +kernel
theorem dX11_init_87 : decode cX11_init 87 = .ok (.putfield 45, 3) := by decide +kernel
theorem dX11_init_90 : decode cX11_init 90 = .ok (.aload_n 0, 1) := by decide +kernel
theorem dX11_init_91 : decode cX11_init 91 = .ok (.new 49, 3) := by decide +kernel
theorem dX11_init_94 : decode cX11_init 94 = .ok (.dup, 1) := by decide +kernel
theorem dX11_init_95 : decode cX11_init 95 = .ok (.invokespecial 51, 3) := by decide +kernel
theorem dX11_init_98 : decode cX11_init 98 = .ok (.putfield 52, 3) := by decide +kernel
theorem dX11_init_101 : decode cX11_init 101 = .ok (.return_, 1) := by decide +kernel
theorem dX11_late_0 : decode cX11_late 0 = .ok (.aload_n 0, 1) := by decide +kernel
theorem dX11_late_1 : decode cX11_late 1 = .ok (.iload_n 1, 1) := by decide +kernel
theorem dX11_late_2 : decode cX11_late 2 = .ok (.invokevirtual 228, 3) := by decide +kernel
theorem dX11_latest_0 : decode cX11_latest 0 = .ok (.aload_n 0, 1) := by decide +kernel
theorem dX11_latest_1 : decode cX11_latest 1 = .ok (.aload_n 0, 1) := by decide +kernel
theorem dX11_latest_2 : decode cX11_latest 2 = .ok (.getfield 177, 3) := by decide +kernel
theorem dX11_latest_5 : decode cX11_latest 5 = .ok (.ifCond .eq 14, 3) := by decide +kernel
theorem dX11_latest_19 : decode cX11_latest 19 = .ok (.iconst 0, 1) := by decide +kernel
theorem dX11_latest_20 : decode cX11_latest 20 = .ok (.invokevirtual 60, 3) := by decide +kernel
theorem dX11_leaves_0 : decode cX11_leaves 0 = .ok (.aload_n 0, 1) := by decide +kernel
theorem dX11_leaves_1 : decode cX11_leaves 1 = .ok (.iload_n 1, 1) := by decide +kernel
theorem dX11_leaves_2 : decode cX11_leaves 2 = .ok (.invokevirtual 110, 3) := by decide +kernel
theorem dX11_leg_0 : decode cX11_leg 0 = .ok (.aload_n 0, 1) := by decide +kernel
theorem dX11_leg_1 : decode cX11_leg 1 = .ok (.iload_n 1, 1) := by decide +kernel
theorem dX11_leg_2 : decode cX11_leg 2 = .ok (.invokevirtual 228, 3) := by decide +kernel
theorem dX11_limits_0 : decode cX11_limits 0 = .ok (.aload_n 0, 1) := by decide +kernel
theorem dX11_limits_1 : decode cX11_limits 1 = .ok (.iload_n 1, 1) := by decide +kernel
theorem dX11_limits_2 : decode cX11_limits 2 = .ok (.invokevirtual 110, 3) := by decide +kernel
theorem dX11_line_0 : decode cX11_line 0 = .ok (.aload_n 0, 1) := by decide +kernel
theorem dX11_line_1 : decode cX11_line 1 = .ok (.iload_n 1, 1) := by decide +kernel
theorem dX11_line_2 : decode cX11_line 2 = .ok (.invokevirtual 110, 3) := by decide +kernel
theorem dX11_lowest_0 : decode cX11_lowest 0 = .ok (.aload_n 0, 1) := by decide +kernel
theorem dX11_lowest_1 : decode cX11_lowest 1 = .ok (.iload_n 1, 1) := by decide +kernel
theorem dX11_lowest_2 : decode cX11_lowest 2 = .ok (.invokevirtual 110, 3) := by decide +kernel
theorem dX11_most_0 : decode cX11_most 0 = .ok (.aload_n 0, 1) := by decide +kernel
theorem dX11_most_1 : decode cX11_most 1 = .ok (.aload_n 0, 1) := by decide +kernel
theorem dX11_most_2 : decode cX11_most 2 = .ok (.getfield 177, 3) := by decide +kernel
theorem dX11_most_5 : decode cX11_most 5 = .ok (.ifCond .eq 14, 3) := by decide +kernel
theorem dX11_most_19 : decode cX11_most 19 = .ok (.iconst 0, 1) := by decide +kernel
theorem dX11_most_20 : decode cX11_most 20 = .ok (.invokevirtual 60, 3) := by decide +kernel
theorem dX11_mustBeBank_0 : decode cX11_mustBeBank 0 = .ok (.aload_n 0, 1) := by decide +kernel
theorem dX11_mustBeBank_1 : decode cX11_mustBeBank 1 = .ok (.iload_n 1, 1) := by decide +kernel
theorem dX11_mustBeBank_2 : decode cX11_mustBeBank 2 = .ok (.iconst 0, 1) := by decide +kernel
theorem dX11_mustBeBank_3 : decode cX11_mustBeBank 3 = .ok (.aload_n 0, 1) := by decide +kernel
theorem dX11_mustBeBank_4 : decode cX11_mustBeBank 4 = .ok (.getfield 10, 3) := by decide +kernel
theorem dX11_mustBeBank_7 : decode cX11_mustBeBank 7 = .ok (.getfield 261, 3) := by decide +kernel
theorem dX11_mustBeBank_10 : decode cX11_mustBeBank 10 = .ok (.iconst 1, 1) := by decide +kernel
theorem dX11_mustBeBank_11 : decode cX11_mustBeBank 11 = .ok (.isub, 1) := by decide +kernel
theorem dX11_mustBeBank_12 : decode cX11_mustBeBank 12 = .ok (.invokestatic 56, 3) := by decide +kernel
theorem dX11_mustBeBank_15 : decode cX11_mustBeBank 15 = .ok (.invokevirtual 186, 3) := by decide +kernel
theorem dX11_mustExist_0 : decode cX11_mustExist 0 = .ok (.iload_n 1, 1) := by decide +kernel
theorem dX11_mustExist_1 : decode cX11_mustExist 1 = .ok (.ifCond .ne 24, 3) := by decide +kernel
theorem dX11_mustExist_4 : decode cX11_mustExist 4 = .ok (.aload_n 0, 1) := by decide +kernel
theorem dX11_mustExist_5 : decode cX11_mustExist 5 = .ok (.dup, 1) := by decide +kernel
theorem dX11_mustExist_6 : decode cX11_mustExist 6 = .ok (.getfield 436, 3) := by decide +kernel
theorem dX11_mustExist_9 : decode cX11_mustExist 9 = .ok (.iconst 1, 1) := by decide +kernel
theorem dX11_mustExist_10 : decode cX11_mustExist 10 = .ok (.iadd, 1) := by decide +kernel
theorem dX11_mustExist_11 : decode cX11_mustExist 11 = .ok (.putfield 436, 3) := by decide +kernel
theorem dX11_mustExist_14 : decode cX11_mustExist 14 = .ok (.new 442, 3) := by decide +kernel
theorem dX11_mustExist_17 : decode cX11_mustExist 17 = .ok (.dup, 1) := by decide +kernel
theorem dX11_mustExist_18 : decode cX11_mustExist 18 = .ok (.ldc_w 444, 3) := by decide +kernel
theorem dX11_mustExist_21 : decode cX11_mustExist 21 = .ok (.invokespecial 446, 3) := by decide +kernel
theorem dX11_mustExist_24 : decode cX11_mustExist 24 = .ok (.athrow, 1) := by decide +kernel
theorem dX11_mustFit_0 : decode cX11_mustFit 0 = .ok (.iload_n 1, 1) := by decide +kernel
theorem dX11_mustFit_1 : decode cX11_mustFit 1 = .ok (.ifCond .ne 24, 3) := by decide +kernel
theorem dX11_mustFit_4 : decode cX11_mustFit 4 = .ok (.aload_n 0, 1) := by decide +kernel
theorem dX11_mustFit_5 : decode cX11_mustFit 5 = .ok (.dup, 1) := by decide +kernel
theorem dX11_mustFit_6 : decode cX11_mustFit 6 = .ok (.getfield 439, 3) := by decide +kernel
theorem dX11_mustFit_9 : decode cX11_mustFit 9 = .ok (.iconst 1, 1) := by decide +kernel
theorem dX11_mustFit_10 : decode cX11_mustFit 10 = .ok (.iadd, 1) := by decide +kernel
theorem dX11_mustFit_11 : decode cX11_mustFit 11 = .ok (.putfield 439, 3) := by decide +kernel
theorem dX11_mustFit_14 : decode cX11_mustFit 14 = .ok (.new 449, 3) := by decide +kernel
theorem dX11_mustFit_17 : decode cX11_mustFit 17 = .ok (.dup, 1) := by decide +kernel
theorem dX11_mustFit_18 : decode cX11_mustFit 18 = .ok (.ldc_w 451, 3) := by decide +kernel
theorem dX11_mustFit_21 : decode cX11_mustFit 21 = .ok (.invokespecial 453, 3) := by decide +kernel
theorem dX11_mustFit_24 : decode cX11_mustFit 24 = .ok (.athrow, 1) := by decide +kernel
theorem dX11_mustFit_25 : decode cX11_mustFit 25 = .ok (.return_, 1) := by decide +kernel
theorem dX11_needs_0 : decode cX11_needs 0 = .ok (.aload_n 0, 1) := by decide +kernel
theorem dX11_needs_1 : decode cX11_needs 1 = .ok (.iload_n 1, 1) := by decide +kernel
theorem dX11_needs_2 : decode cX11_needs 2 = .ok (.invokevirtual 110, 3) := by decide +kernel
theorem dX11_next_0 : decode cX11_next 0 = .ok (.aload_n 0, 1) := by decide +kernel
theorem dX11_next_1 : decode cX11_next 1 = .ok (.iload_n 1, 1) := by decide +kernel
theorem dX11_next_2 : decode cX11_next 2 = .ok (.invokevirtual 68, 3) := by decide +kernel
theorem dX11_open_0 : decode cX11_open 0 = .ok (.aload_n 0, 1) := by decide +kernel
theorem dX11_open_1 : decode cX11_open 1 = .ok (.iload_n 1, 1) := by decide +kernel
theorem dX11_open_2 : decode cX11_open 2 = .ok (.invokevirtual 68, 3) := by decide +kernel
theorem dX11_pay_0 : decode cX11_pay 0 = .ok (.aload_n 0, 1) := by decide +kernel
theorem dX11_pay_1 : decode cX11_pay 1 = .ok (.aload_n 0, 1) := by decide +kernel
theorem dX11_pay_2 : decode cX11_pay 2 = .ok (.getfield 177, 3) := by decide +kernel
theorem dX11_pay_5 : decode cX11_pay 5 = .ok (.invokevirtual 186, 3) := by decide +kernel
theorem dX11_payment_0 : decode cX11_payment 0 = .ok (.aload_n 0, 1) := by decide +kernel
theorem dX11_payment_1 : decode cX11_payment 1 = .ok (.iload_n 1, 1) := by decide +kernel
theorem dX11_payment_2 : decode cX11_payment 2 = .ok (.invokevirtual 228, 3) := by decide +kernel
theorem dX11_paymentAt_0 : decode cX11_paymentAt 0 = .ok (.aload_n 0, 1) := by decide +kernel
theorem dX11_paymentAt_1 : decode cX11_paymentAt 1 = .ok (.iload_n 1, 1) := by decide +kernel
theorem dX11_paymentAt_2 : decode cX11_paymentAt 2 = .ok (.iconst 0, 1) := by decide +kernel
theorem dX11_paymentAt_3 : decode cX11_paymentAt 3 = .ok (.aload_n 0, 1) := by decide +kernel
theorem dX11_paymentAt_4 : decode cX11_paymentAt 4 = .ok (.getfield 21, 3) := by decide +kernel
theorem dX11_paymentAt_7 : decode cX11_paymentAt 7 = .ok (.getfield 220, 3) := by decide +kernel
theorem dX11_paymentAt_10 : decode cX11_paymentAt 10 = .ok (.iconst 1, 1) := by decide +kernel
theorem dX11_paymentAt_11 : decode cX11_paymentAt 11 = .ok (.isub, 1) := by decide +kernel
theorem dX11_paymentAt_12 : decode cX11_paymentAt 12 = .ok (.invokestatic 56, 3) := by decide +kernel
theorem dX11_paymentAt_15 : decode cX11_paymentAt 15 = .ok (.invokevirtual 186, 3) := by decide +kernel
theorem dX11_place_0 : decode cX11_place 0 = .ok (.aload_n 0, 1) := by decide +kernel
theorem dX11_place_1 : decode cX11_place 1 = .ok (.iload_n 1, 1) := by decide +kernel
theorem dX11_place_2 : decode cX11_place 2 = .ok (.sipush (-720), 3) := by decide +kernel
theorem dX11_place_5 : decode cX11_place 5 = .ok (.sipush 840, 3) := by decide +kernel
theorem dX11_place_8 : decode cX11_place 8 = .ok (.invokestatic 56, 3) := by decide +kernel
theorem dX11_place_11 : decode cX11_place 11 = .ok (.ifCond .eq 17, 3) := by decide +kernel
theorem dX11_place_14 : decode cX11_place 14 = .ok (.iload_n 2, 1) := by decide +kernel
theorem dX11_place_15 : decode cX11_place 15 = .ok (.iconst 0, 1) := by decide +kernel
theorem dX11_place_16 : decode cX11_place 16 = .ok (.bipush 126, 2) := by decide +kernel
theorem dX11_place_18 : decode cX11_place 18 = .ok (.invokestatic 56, 3) := by decide +kernel
theorem dX11_place_21 : decode cX11_place 21 = .ok (.ifCond .eq 7, 3) := by decide +kernel
theorem dX11_place_24 : decode cX11_place 24 = .ok (.iconst 1, 1) := by decide +kernel
theorem dX11_place_25 : decode cX11_place 25 = .ok (.goto 4, 3) := by decide +kernel
theorem dX11_place_28 : decode cX11_place 28 = .ok (.iconst 0, 1) := by decide +kernel
theorem dX11_place_29 : decode cX11_place 29 = .ok (.invokevirtual 60, 3) := by decide +kernel
theorem dX11_place_32 : decode cX11_place 32 = .ok (.aload_n 0, 1) := by decide +kernel
theorem dX11_place_33 : decode cX11_place 33 = .ok (.iload_n 3, 1) := by decide +kernel
theorem dX11_place_34 : decode cX11_place 34 = .ok (.iconst 0, 1) := by decide +kernel
theorem dX11_place_35 : decode cX11_place 35 = .ok (.sipush 1438, 3) := by decide +kernel
theorem dX11_place_38 : decode cX11_place 38 = .ok (.invokestatic 56, 3) := by decide +kernel
theorem dX11_place_41 : decode cX11_place 41 = .ok (.ifCond .eq 21, 3) := by decide +kernel
theorem dX11_place_44 : decode cX11_place 44 = .ok (.iload 4, 2) := by decide +kernel
theorem dX11_place_46 : decode cX11_place 46 = .ok (.iload_n 3, 1) := by decide +kernel
theorem dX11_place_47 : decode cX11_place 47 = .ok (.iconst 1, 1) := by decide +kernel
theorem dX11_place_48 : decode cX11_place 48 = .ok (.iadd, 1) := by decide +kernel
theorem dX11_place_49 : decode cX11_place 49 = .ok (.sipush 1439, 3) := by decide +kernel
theorem dX11_place_52 : decode cX11_place 52 = .ok (.invokestatic 56, 3) := by decide +kernel
theorem dX11_place_55 : decode cX11_place 55 = .ok (.ifCond .eq 7, 3) := by decide +kernel
theorem dX11_place_58 : decode cX11_place 58 = .ok (.iconst 1, 1) := by decide +kernel
theorem dX11_place_59 : decode cX11_place 59 = .ok (.goto 4, 3) := by decide +kernel
theorem dX11_place_62 : decode cX11_place 62 = .ok (.iconst 0, 1) := by decide +kernel
theorem dX11_place_63 : decode cX11_place 63 = .ok (.invokevirtual 60, 3) := by decide +kernel
theorem dX11_place_66 : decode cX11_place 66 = .ok (.aload_n 0, 1) := by decide +kernel
theorem dX11_place_67 : decode cX11_place 67 = .ok (.getfield 10, 3) := by decide +kernel
theorem dX11_place_70 : decode cX11_place 70 = .ok (.iload_n 1, 1) := by decide +kernel
theorem dX11_place_71 : decode cX11_place 71 = .ok (.iload_n 2, 1) := by decide +kernel
theorem dX11_place_72 : decode cX11_place 72 = .ok (.iload_n 3, 1) := by decide +kernel
theorem dX11_place_73 : decode cX11_place 73 = .ok (.iload 4, 2) := by decide +kernel
theorem dX11_place_75 : decode cX11_place 75 = .ok (.invokevirtual 64, 3) := by decide +kernel
theorem dX11_place_78 : decode cX11_place 78 = .ok (.ireturn, 1) := by decide +kernel
theorem dX11_placeAt_0 : decode cX11_placeAt 0 = .ok (.aload_n 0, 1) := by decide +kernel
theorem dX11_placeAt_1 : decode cX11_placeAt 1 = .ok (.iload_n 1, 1) := by decide +kernel
theorem dX11_placeAt_2 : decode cX11_placeAt 2 = .ok (.iconst 0, 1) := by decide +kernel
theorem dX11_placeAt_3 : decode cX11_placeAt 3 = .ok (.aload_n 0, 1) := by decide +kernel
theorem dX11_placeAt_4 : decode cX11_placeAt 4 = .ok (.getfield 10, 3) := by decide +kernel
theorem dX11_placeAt_7 : decode cX11_placeAt 7 = .ok (.getfield 258, 3) := by decide +kernel
theorem dX11_placeAt_10 : decode cX11_placeAt 10 = .ok (.iconst 1, 1) := by decide +kernel
theorem dX11_placeAt_11 : decode cX11_placeAt 11 = .ok (.isub, 1) := by decide +kernel
theorem dX11_placeAt_12 : decode cX11_placeAt 12 = .ok (.invokestatic 56, 3) := by decide +kernel
theorem dX11_placeAt_15 : decode cX11_placeAt 15 = .ok (.invokevirtual 186, 3) := by decide +kernel
theorem dX11_placeOf_0 : decode cX11_placeOf 0 = .ok (.aload_n 0, 1) := by decide +kernel
theorem dX11_placeOf_1 : decode cX11_placeOf 1 = .ok (.iload_n 1, 1) := by decide +kernel
theorem dX11_placeOf_2 : decode cX11_placeOf 2 = .ok (.invokevirtual 68, 3) := by decide +kernel
theorem dX11_reach_0 : decode cX11_reach 0 = .ok (.aload_n 0, 1) := by decide +kernel
theorem dX11_reach_1 : decode cX11_reach 1 = .ok (.iload_n 1, 1) := by decide +kernel
theorem dX11_reach_2 : decode cX11_reach 2 = .ok (.invokevirtual 103, 3) := by decide +kernel
theorem dX11_refuse_0 : decode cX11_refuse 0 = .ok (.aload_n 0, 1) := by decide +kernel
theorem dX11_refuse_1 : decode cX11_refuse 1 = .ok (.iload_n 1, 1) := by decide +kernel
theorem dX11_refuse_2 : decode cX11_refuse 2 = .ok (.invokevirtual 228, 3) := by decide +kernel
theorem dX11_reroute_0 : decode cX11_reroute 0 = .ok (.aload_n 0, 1) := by decide +kernel
theorem dX11_reroute_1 : decode cX11_reroute 1 = .ok (.iload_n 1, 1) := by decide +kernel
theorem dX11_reroute_2 : decode cX11_reroute 2 = .ok (.invokevirtual 228, 3) := by decide +kernel
theorem dX11_route_0 : decode cX11_route 0 = .ok (.aload_n 0, 1) := by decide +kernel
theorem dX11_route_1 : decode cX11_route 1 = .ok (.aload_n 0, 1) := by decide +kernel
theorem dX11_route_2 : decode cX11_route 2 = .ok (.getfield 177, 3) := by decide +kernel
theorem dX11_route_5 : decode cX11_route 5 = .ok (.invokevirtual 186, 3) := by decide +kernel
theorem dX11_shared_0 : decode cX11_shared 0 = .ok (.aload_n 0, 1) := by decide +kernel
theorem dX11_shared_1 : decode cX11_shared 1 = .ok (.iload_n 1, 1) := by decide +kernel
theorem dX11_shared_2 : decode cX11_shared 2 = .ok (.invokevirtual 228, 3) := by decide +kernel
theorem dX11_shut_0 : decode cX11_shut 0 = .ok (.aload_n 0, 1) := by decide +kernel
theorem dX11_shut_1 : decode cX11_shut 1 = .ok (.iload_n 1, 1) := by decide +kernel
theorem dX11_shut_2 : decode cX11_shut 2 = .ok (.invokevirtual 110, 3) := by decide +kernel
theorem dX11_soonest_0 : decode cX11_soonest 0 = .ok (.aload_n 0, 1) := by decide +kernel
theorem dX11_soonest_1 : decode cX11_soonest 1 = .ok (.iload_n 1, 1) := by decide +kernel
theorem dX11_soonest_2 : decode cX11_soonest 2 = .ok (.invokevirtual 103, 3) := by decide +kernel
theorem dX11_status_0 : decode cX11_status 0 = .ok (.iload_n 1, 1) := by decide +kernel
theorem dX11_status_1 : decode cX11_status 1 = .ok (.ifCond .ne 8, 3) := by decide +kernel
theorem dX11_status_4 : decode cX11_status 4 = .ok (.aload_n 0, 1) := by decide +kernel
theorem dX11_status_5 : decode cX11_status 5 = .ok (.getfield 436, 3) := by decide +kernel
theorem dX11_status_8 : decode cX11_status 8 = .ok (.ireturn, 1) := by decide +kernel
theorem dX11_status_9 : decode cX11_status 9 = .ok (.iload_n 1, 1) := by decide +kernel
theorem dX11_status_10 : decode cX11_status 10 = .ok (.iconst 1, 1) := by decide +kernel
theorem dX11_status_11 : decode cX11_status 11 = .ok (.if_icmp .ne 10, 3) := by decide +kernel
theorem dX11_status_14 : decode cX11_status 14 = .ok (.aload_n 0, 1) := by decide +kernel
theorem dX11_status_15 : decode cX11_status 15 = .ok (.getfield 439, 3) := by decide +kernel
theorem dX11_status_18 : decode cX11_status 18 = .ok (.goto 4, 3) := by decide +kernel
theorem dX11_status_21 : decode cX11_status 21 = .ok (.iconst (-1), 1) := by decide +kernel
theorem dX11_status_22 : decode cX11_status 22 = .ok (.ireturn, 1) := by decide +kernel
theorem dX11_step_0 : decode cX11_step 0 = .ok (.aload_n 0, 1) := by decide +kernel
theorem dX11_step_1 : decode cX11_step 1 = .ok (.aload_n 0, 1) := by decide +kernel
theorem dX11_step_2 : decode cX11_step 2 = .ok (.getfield 177, 3) := by decide +kernel
theorem dX11_step_5 : decode cX11_step 5 = .ok (.invokevirtual 186, 3) := by decide +kernel
theorem dX11_terms_0 : decode cX11_terms 0 = .ok (.aload_n 0, 1) := by decide +kernel
theorem dX11_terms_1 : decode cX11_terms 1 = .ok (.iload_n 1, 1) := by decide +kernel
theorem dX11_terms_2 : decode cX11_terms 2 = .ok (.invokevirtual 110, 3) := by decide +kernel
theorem dX11_tied_0 : decode cX11_tied 0 = .ok (.aload_n 0, 1) := by decide +kernel
theorem dX11_tied_1 : decode cX11_tied 1 = .ok (.iload_n 1, 1) := by decide +kernel
theorem dX11_tied_2 : decode cX11_tied 2 = .ok (.invokevirtual 110, 3) := by decide +kernel
theorem dX11_tiedUp_0 : decode cX11_tiedUp 0 = .ok (.aload_n 0, 1) := by decide +kernel
theorem dX11_tiedUp_1 : decode cX11_tiedUp 1 = .ok (.iload_n 1, 1) := by decide +kernel
theorem dX11_tiedUp_2 : decode cX11_tiedUp 2 = .ok (.invokevirtual 228, 3) := by decide +kernel
theorem dX11_told_0 : decode cX11_told 0 = .ok (.aload_n 0, 1) := by decide +kernel
theorem dX11_told_1 : decode cX11_told 1 = .ok (.iload_n 1, 1) := by decide +kernel
theorem dX11_told_2 : decode cX11_told 2 = .ok (.iconst 0, 1) := by decide +kernel
theorem dX11_told_3 : decode cX11_told 3 = .ok (.bipush 9, 2) := by decide +kernel
theorem dX11_told_5 : decode cX11_told 5 = .ok (.invokestatic 56, 3) := by decide +kernel
theorem dX11_told_8 : decode cX11_told 8 = .ok (.invokevirtual 60, 3) := by decide +kernel
theorem dX11_told_11 : decode cX11_told 11 = .ok (.iload_n 1, 1) := by decide +kernel
theorem dX11_told_12 : decode cX11_told 12 = .ok (.tableswitch 104 0 9 #[56, 64, 72, 80, 88, 104, 104, 104, 104, 96], 56) := by decide +kernel
theorem dX11_told_68 : decode cX11_told 68 = .ok (.aload_n 0, 1) := by decide +kernel
theorem dX11_told_69 : decode cX11_told 69 = .ok (.getfield 10, 3) := by decide +kernel
theorem dX11_told_72 : decode cX11_told 72 = .ok (.getfield 78, 3) := by decide +kernel
theorem dX11_told_75 : decode cX11_told 75 = .ok (.ireturn, 1) := by decide +kernel
theorem dX11_told_76 : decode cX11_told 76 = .ok (.aload_n 0, 1) := by decide +kernel
theorem dX11_told_77 : decode cX11_told 77 = .ok (.getfield 10, 3) := by decide +kernel
theorem dX11_told_80 : decode cX11_told 80 = .ok (.getfield 258, 3) := by decide +kernel
theorem dX11_told_83 : decode cX11_told 83 = .ok (.ireturn, 1) := by decide +kernel
theorem dX11_told_84 : decode cX11_told 84 = .ok (.aload_n 0, 1) := by decide +kernel
theorem dX11_told_85 : decode cX11_told 85 = .ok (.getfield 10, 3) := by decide +kernel
theorem dX11_told_88 : decode cX11_told 88 = .ok (.getfield 261, 3) := by decide +kernel
theorem dX11_told_91 : decode cX11_told 91 = .ok (.ireturn, 1) := by decide +kernel
theorem dX11_told_92 : decode cX11_told 92 = .ok (.aload_n 0, 1) := by decide +kernel
theorem dX11_told_93 : decode cX11_told 93 = .ok (.getfield 10, 3) := by decide +kernel
theorem dX11_told_96 : decode cX11_told 96 = .ok (.getfield 264, 3) := by decide +kernel
theorem dX11_told_99 : decode cX11_told 99 = .ok (.ireturn, 1) := by decide +kernel
theorem dX11_told_100 : decode cX11_told 100 = .ok (.aload_n 0, 1) := by decide +kernel
theorem dX11_told_101 : decode cX11_told 101 = .ok (.getfield 21, 3) := by decide +kernel
theorem dX11_told_104 : decode cX11_told 104 = .ok (.getfield 220, 3) := by decide +kernel
theorem dX11_told_107 : decode cX11_told 107 = .ok (.ireturn, 1) := by decide +kernel
theorem dX11_told_108 : decode cX11_told 108 = .ok (.aload_n 0, 1) := by decide +kernel
theorem dX11_told_109 : decode cX11_told 109 = .ok (.getfield 21, 3) := by decide +kernel
theorem dX11_told_112 : decode cX11_told 112 = .ok (.invokevirtual 267, 3) := by decide +kernel
theorem dX11_told_115 : decode cX11_told 115 = .ok (.ireturn, 1) := by decide +kernel
theorem dX11_told_116 : decode cX11_told 116 = .ok (.aload_n 0, 1) := by decide +kernel
theorem dX11_told_117 : decode cX11_told 117 = .ok (.getfield 21, 3) := by decide +kernel
theorem dX11_told_120 : decode cX11_told 120 = .ok (.iload_n 1, 1) := by decide +kernel
theorem dX11_told_121 : decode cX11_told 121 = .ok (.iconst 5, 1) := by decide +kernel
theorem dX11_told_122 : decode cX11_told 122 = .ok (.isub, 1) := by decide +kernel
theorem dX11_told_123 : decode cX11_told 123 = .ok (.invokevirtual 270, 3) := by decide +kernel
theorem dX11_told_126 : decode cX11_told 126 = .ok (.ireturn, 1) := by decide +kernel
theorem dX11_until_0 : decode cX11_until 0 = .ok (.aload_n 0, 1) := by decide +kernel
theorem dX11_until_1 : decode cX11_until 1 = .ok (.iload_n 1, 1) := by decide +kernel
theorem dX11_until_2 : decode cX11_until 2 = .ok (.aload_n 0, 1) := by decide +kernel
theorem dX11_until_3 : decode cX11_until 3 = .ok (.getfield 10, 3) := by decide +kernel
theorem dX11_until_6 : decode cX11_until 6 = .ok (.getfield 78, 3) := by decide +kernel
theorem dX11_until_9 : decode cX11_until 9 = .ok (.ldc 169, 2) := by decide +kernel
theorem dX11_until_11 : decode cX11_until 11 = .ok (.invokestatic 56, 3) := by decide +kernel
theorem dX11_until_14 : decode cX11_until 14 = .ok (.invokevirtual 60, 3) := by decide +kernel
theorem dX11_until_17 : decode cX11_until 17 = .ok (.aload_n 0, 1) := by decide +kernel
theorem dX11_until_18 : decode cX11_until 18 = .ok (.getfield 21, 3) := by decide +kernel
theorem dX11_until_21 : decode cX11_until 21 = .ok (.iload_n 1, 1) := by decide +kernel
theorem dX11_until_22 : decode cX11_until 22 = .ok (.invokevirtual 420, 3) := by decide +kernel
theorem dX11_until_25 : decode cX11_until 25 = .ok (.ireturn, 1) := by decide +kernel
theorem dX11_used_0 : decode cX11_used 0 = .ok (.aload_n 0, 1) := by decide +kernel
theorem dX11_used_1 : decode cX11_used 1 = .ok (.iload_n 1, 1) := by decide +kernel
theorem dX11_used_2 : decode cX11_used 2 = .ok (.invokevirtual 110, 3) := by decide +kernel
theorem dX11_vital_0 : decode cX11_vital 0 = .ok (.aload_n 0, 1) := by decide +kernel
theorem dX11_vital_1 : decode cX11_vital 1 = .ok (.aload_n 0, 1) := by decide +kernel
theorem dX11_vital_2 : decode cX11_vital 2 = .ok (.getfield 177, 3) := by decide +kernel
theorem dX11_vital_5 : decode cX11_vital 5 = .ok (.invokevirtual 60, 3) := by decide +kernel
theorem dX11_within_0 : decode cX11_within 0 = .ok (.iload_n 0, 1) := by decide +kernel
theorem dX11_within_1 : decode cX11_within 1 = .ok (.iload_n 1, 1) := by decide +kernel
theorem dX11_within_2 : decode cX11_within 2 = .ok (.if_icmp .lt 12, 3) := by decide +kernel
theorem dX11_within_5 : decode cX11_within 5 = .ok (.iload_n 0, 1) := by decide +kernel
theorem dX11_within_6 : decode cX11_within 6 = .ok (.iload_n 2, 1) := by decide +kernel
theorem dX11_within_7 : decode cX11_within 7 = .ok (.if_icmp .gt 7, 3) := by decide +kernel
theorem dX11_within_10 : decode cX11_within 10 = .ok (.iconst 1, 1) := by decide +kernel
theorem dX11_within_11 : decode cX11_within 11 = .ok (.goto 4, 3) := by decide +kernel
theorem dX11_within_14 : decode cX11_within 14 = .ok (.iconst 0, 1) := by decide +kernel
theorem dX11_within_15 : decode cX11_within 15 = .ok (.ireturn, 1) := by decide +kernel
theorem dX11_without_0 : decode cX11_without 0 = .ok (.aload_n 0, 1) := by decide +kernel
theorem dX11_without_1 : decode cX11_without 1 = .ok (.iload_n 1, 1) := by decide +kernel
theorem dX11_without_2 : decode cX11_without 2 = .ok (.invokevirtual 110, 3) := by decide +kernel
theorem dX12_account_0 : decode cX12_account 0 = .ok (.aload_n 0, 1) := by decide +kernel
theorem dX12_account_1 : decode cX12_account 1 = .ok (.iconst 0, 1) := by decide +kernel
theorem dX12_account_2 : decode cX12_account 2 = .ok (.putfield 56, 3) := by decide +kernel
theorem dX12_account_5 : decode cX12_account 5 = .ok (.aload_n 0, 1) := by decide +kernel
theorem dX12_account_6 : decode cX12_account 6 = .ok (.aload_n 0, 1) := by decide +kernel
theorem dX12_account_7 : decode cX12_account 7 = .ok (.iload_n 1, 1) := by decide +kernel
theorem dX12_account_8 : decode cX12_account 8 = .ok (.invokevirtual 131, 3) := by decide +kernel
theorem dX12_account_11 : decode cX12_account 11 = .ok (.ifCond .eq 11, 3) := by decide +kernel
theorem dX12_account_22 : decode cX12_account 22 = .ok (.iconst 1, 1) := by decide +kernel
theorem dX12_account_23 : decode cX12_account 23 = .ok (.goto 4, 3) := by decide +kernel
theorem dX12_account_27 : decode cX12_account 27 = .ok (.iconst 1, 1) := by decide +kernel
theorem dX12_account_28 : decode cX12_account 28 = .ok (.iconst 0, 1) := by decide +kernel
theorem dX12_account_29 : decode cX12_account 29 = .ok (.invokevirtual 114, 3) := by decide +kernel
theorem dX12_account_32 : decode cX12_account 32 = .ok (.ifCond .ne 47, 3) := by decide +kernel
theorem dX12_account_79 : decode cX12_account 79 = .ok (.iconst 0, 1) := by decide +kernel
theorem dX12_account_80 : decode cX12_account 80 = .ok (.ireturn, 1) := by decide +kernel
theorem dX12_accountOf_0 : decode cX12_accountOf 0 = .ok (.aload_n 0, 1) := by decide +kernel
theorem dX12_accountOf_1 : decode cX12_accountOf 1 = .ok (.iconst 0, 1) := by decide +kernel
theorem dX12_accountOf_2 : decode cX12_accountOf 2 = .ok (.putfield 56, 3) := by decide +kernel
theorem dX12_accountOf_5 : decode cX12_accountOf 5 = .ok (.aload_n 0, 1) := by decide +kernel
theorem dX12_accountOf_6 : decode cX12_accountOf 6 = .ok (.aload_n 0, 1) := by decide +kernel
theorem dX12_accountOf_7 : decode cX12_accountOf 7 = .ok (.iload_n 1, 1) := by decide +kernel
theorem dX12_accountOf_8 : decode cX12_accountOf 8 = .ok (.invokevirtual 144, 3) := by decide +kernel
theorem dX12_accountOf_11 : decode cX12_accountOf 11 = .ok (.ifCond .ne 7, 3) := by decide +kernel
theorem dX12_accountOf_14 : decode cX12_accountOf 14 = .ok (.iconst 1, 1) := by decide +kernel
theorem dX12_accountOf_15 : decode cX12_accountOf 15 = .ok (.goto 4, 3) := by decide +kernel
theorem dX12_accountOf_19 : decode cX12_accountOf 19 = .ok (.iconst 1, 1) := by decide +kernel
theorem dX12_accountOf_20 : decode cX12_accountOf 20 = .ok (.iconst 0, 1) := by decide +kernel
theorem dX12_accountOf_21 : decode cX12_accountOf 21 = .ok (.invokevirtual 114, 3) := by decide +kernel
theorem dX12_accountOf_24 : decode cX12_accountOf 24 = .ok (.ifCond .ne 27, 3) := by decide +kernel
theorem dX12_accountOf_51 : decode cX12_accountOf 51 = .ok (.iconst 0, 1) := by decide +kernel
theorem dX12_accountOf_52 : decode cX12_accountOf 52 = .ok (.ireturn, 1) := by decide +kernel
theorem dX12_after_0 : decode cX12_after 0 = .ok (.aload_n 0, 1) := by decide +kernel
theorem dX12_after_1 : decode cX12_after 1 = .ok (.iconst 0, 1) := by decide +kernel
theorem dX12_after_2 : decode cX12_after 2 = .ok (.putfield 56, 3) := by decide +kernel
theorem dX12_after_5 : decode cX12_after 5 = .ok (.aload_n 0, 1) := by decide +kernel
theorem dX12_after_6 : decode cX12_after 6 = .ok (.aload_n 0, 1) := by decide +kernel
theorem dX12_after_7 : decode cX12_after 7 = .ok (.iload_n 1, 1) := by decide +kernel
theorem dX12_after_8 : decode cX12_after 8 = .ok (.invokevirtual 127, 3) := by decide +kernel
theorem dX12_after_11 : decode cX12_after 11 = .ok (.ifCond .ne 7, 3) := by decide +kernel
theorem dX12_after_14 : decode cX12_after 14 = .ok (.iconst 1, 1) := by decide +kernel
theorem dX12_after_15 : decode cX12_after 15 = .ok (.goto 4, 3) := by decide +kernel
theorem dX12_after_19 : decode cX12_after 19 = .ok (.iconst 1, 1) := by decide +kernel
theorem dX12_after_20 : decode cX12_after 20 = .ok (.iconst 0, 1) := by decide +kernel
theorem dX12_after_21 : decode cX12_after 21 = .ok (.invokevirtual 114, 3) := by decide +kernel
theorem dX12_after_24 : decode cX12_after 24 = .ok (.ifCond .ne 38, 3) := by decide +kernel
theorem dX12_after_62 : decode cX12_after 62 = .ok (.iconst 0, 1) := by decide +kernel
theorem dX12_after_63 : decode cX12_after 63 = .ok (.ireturn, 1) := by decide +kernel
theorem dX12_arrives_0 : decode cX12_arrives 0 = .ok (.aload_n 0, 1) := by decide +kernel
theorem dX12_arrives_1 : decode cX12_arrives 1 = .ok (.iconst 0, 1) := by decide +kernel
theorem dX12_arrives_2 : decode cX12_arrives 2 = .ok (.putfield 56, 3) := by decide +kernel
theorem dX12_arrives_5 : decode cX12_arrives 5 = .ok (.aload_n 0, 1) := by decide +kernel
theorem dX12_arrives_6 : decode cX12_arrives 6 = .ok (.aload_n 0, 1) := by decide +kernel
theorem dX12_arrives_7 : decode cX12_arrives 7 = .ok (.iload_n 1, 1) := by decide +kernel
theorem dX12_arrives_8 : decode cX12_arrives 8 = .ok (.invokevirtual 144, 3) := by decide +kernel
theorem dX12_arrives_11 : decode cX12_arrives 11 = .ok (.ifCond .ne 7, 3) := by decide +kernel
theorem dX12_arrives_14 : decode cX12_arrives 14 = .ok (.iconst 1, 1) := by decide +kernel
theorem dX12_arrives_15 : decode cX12_arrives 15 = .ok (.goto 4, 3) := by decide +kernel
theorem dX12_arrives_19 : decode cX12_arrives 19 = .ok (.iconst 1, 1) := by decide +kernel
theorem dX12_arrives_20 : decode cX12_arrives 20 = .ok (.iconst 0, 1) := by decide +kernel
theorem dX12_arrives_21 : decode cX12_arrives 21 = .ok (.invokevirtual 114, 3) := by decide +kernel
theorem dX12_arrives_24 : decode cX12_arrives 24 = .ok (.ifCond .ne 37, 3) := by decide +kernel
theorem dX12_arrives_61 : decode cX12_arrives 61 = .ok (.iconst 0, 1) := by decide +kernel
theorem dX12_arrives_62 : decode cX12_arrives 62 = .ok (.ireturn, 1) := by decide +kernel
theorem dX12_ask_0 : decode cX12_ask 0 = .ok (.aload_n 0, 1) := by decide +kernel
theorem dX12_ask_1 : decode cX12_ask 1 = .ok (.iconst 0, 1) := by decide +kernel
theorem dX12_ask_2 : decode cX12_ask 2 = .ok (.putfield 56, 3) := by decide +kernel
theorem dX12_ask_5 : decode cX12_ask 5 = .ok (.aload_n 0, 1) := by decide +kernel
theorem dX12_ask_6 : decode cX12_ask 6 = .ok (.aload_n 0, 1) := by decide +kernel
theorem dX12_ask_7 : decode cX12_ask 7 = .ok (.iload_n 1, 1) := by decide +kernel
theorem dX12_ask_8 : decode cX12_ask 8 = .ok (.invokevirtual 131, 3) := by decide +kernel
theorem dX12_ask_11 : decode cX12_ask 11 = .ok (.ifCond .eq 11, 3) := by decide +kernel
theorem dX12_ask_22 : decode cX12_ask 22 = .ok (.iconst 1, 1) := by decide +kernel
theorem dX12_ask_23 : decode cX12_ask 23 = .ok (.goto 4, 3) := by decide +kernel
theorem dX12_ask_27 : decode cX12_ask 27 = .ok (.iconst 1, 1) := by decide +kernel
theorem dX12_ask_28 : decode cX12_ask 28 = .ok (.iconst 0, 1) := by decide +kernel
theorem dX12_ask_29 : decode cX12_ask 29 = .ok (.invokevirtual 114, 3) := by decide +kernel
theorem dX12_ask_32 : decode cX12_ask 32 = .ok (.ifCond .ne 43, 3) := by decide +kernel
theorem dX12_ask_75 : decode cX12_ask 75 = .ok (.iconst 0, 1) := by decide +kernel
theorem dX12_ask_76 : decode cX12_ask 76 = .ok (.ireturn, 1) := by decide +kernel
theorem dX12_bad_0 : decode cX12_bad 0 = .ok (.iload_n 1, 1) := by decide +kernel
theorem dX12_bad_1 : decode cX12_bad 1 = .ok (.ifCond .eq 25, 3) := by decide +kernel
theorem dX12_bad_4 : decode cX12_bad 4 = .ok (.aload_n 0, 1) := by decide +kernel
theorem dX12_bad_5 : decode cX12_bad 5 = .ok (.getfield 56, 3) := by decide +kernel
theorem dX12_bad_8 : decode cX12_bad 8 = .ok (.ifCond .ne 18, 3) := by decide +kernel
theorem dX12_bad_11 : decode cX12_bad 11 = .ok (.aload_n 0, 1) := by decide +kernel
theorem dX12_bad_12 : decode cX12_bad 12 = .ok (.iload_n 2, 1) := by decide +kernel
theorem dX12_bad_13 : decode cX12_bad 13 = .ok (.putfield 56, 3) := by decide +kernel
theorem dX12_bad_16 : decode cX12_bad 16 = .ok (.aload_n 0, 1) := by decide +kernel
theorem dX12_bad_17 : decode cX12_bad 17 = .ok (.getfield 7, 3) := by decide +kernel
theorem dX12_bad_20 : decode cX12_bad 20 = .ok (.iload_n 3, 1) := by decide +kernel
theorem dX12_bad_21 : decode cX12_bad 21 = .ok (.dup2, 1) := by decide +kernel
theorem dX12_bad_22 : decode cX12_bad 22 = .ok (.iaload, 1) := by decide +kernel
theorem dX12_bad_23 : decode cX12_bad 23 = .ok (.iconst 1, 1) := by decide +kernel
theorem dX12_bad_24 : decode cX12_bad 24 = .ok (.iadd, 1) := by decide +kernel
theorem dX12_bad_25 : decode cX12_bad 25 = .ok (.iastore, 1) := by decide +kernel
theorem dX12_bad_26 : decode cX12_bad 26 = .ok (.aload_n 0, 1) := by decide +kernel
theorem dX12_bad_27 : decode cX12_bad 27 = .ok (.getfield 56, 3) := by decide +kernel
theorem dX12_bad_30 : decode cX12_bad 30 = .ok (.ifCond .eq 7, 3) := by decide +kernel
theorem dX12_bad_33 : decode cX12_bad 33 = .ok (.iconst 1, 1) := by decide +kernel
theorem dX12_bad_34 : decode cX12_bad 34 = .ok (.goto 4, 3) := by decide +kernel
theorem dX12_bad_37 : decode cX12_bad 37 = .ok (.iconst 0, 1) := by decide +kernel
theorem dX12_bad_38 : decode cX12_bad 38 = .ok (.ireturn, 1) := by decide +kernel
theorem dX12_bank_0 : decode cX12_bank 0 = .ok (.aload_n 0, 1) := by decide +kernel
theorem dX12_bank_1 : decode cX12_bank 1 = .ok (.iconst 0, 1) := by decide +kernel
theorem dX12_bank_2 : decode cX12_bank 2 = .ok (.putfield 56, 3) := by decide +kernel
theorem dX12_bank_5 : decode cX12_bank 5 = .ok (.aload_n 0, 1) := by decide +kernel
theorem dX12_bank_6 : decode cX12_bank 6 = .ok (.aload_n 0, 1) := by decide +kernel
theorem dX12_bank_7 : decode cX12_bank 7 = .ok (.iload_n 1, 1) := by decide +kernel
theorem dX12_bank_8 : decode cX12_bank 8 = .ok (.invokevirtual 127, 3) := by decide +kernel
theorem dX12_bank_11 : decode cX12_bank 11 = .ok (.ifCond .ne 7, 3) := by decide +kernel
theorem dX12_bank_14 : decode cX12_bank 14 = .ok (.iconst 1, 1) := by decide +kernel
theorem dX12_bank_15 : decode cX12_bank 15 = .ok (.goto 4, 3) := by decide +kernel
theorem dX12_bank_19 : decode cX12_bank 19 = .ok (.iconst 1, 1) := by decide +kernel
theorem dX12_bank_20 : decode cX12_bank 20 = .ok (.iconst 0, 1) := by decide +kernel
theorem dX12_bank_21 : decode cX12_bank 21 = .ok (.invokevirtual 114, 3) := by decide +kernel
theorem dX12_bank_24 : decode cX12_bank 24 = .ok (.ifCond .eq 5, 3) := by decide +kernel
theorem dX12_bank_27 : decode cX12_bank 27 = .ok (.iconst 0, 1) := by decide +kernel
theorem dX12_bank_28 : decode cX12_bank 28 = .ok (.ireturn, 1) := by decide +kernel
theorem dX12_bankOf__0 : decode cX12_bankOf_ 0 = .ok (.aload_n 0, 1) := by decide +kernel
theorem dX12_bankOf__1 : decode cX12_bankOf_ 1 = .ok (.iconst 0, 1) := by decide +kernel
theorem dX12_bankOf__2 : decode cX12_bankOf_ 2 = .ok (.putfield 56, 3) := by decide +kernel
theorem dX12_bankOf__5 : decode cX12_bankOf_ 5 = .ok (.aload_n 0, 1) := by decide +kernel
theorem dX12_bankOf__6 : decode cX12_bankOf_ 6 = .ok (.aload_n 0, 1) := by decide +kernel
theorem dX12_bankOf__7 : decode cX12_bankOf_ 7 = .ok (.iload_n 1, 1) := by decide +kernel
theorem dX12_bankOf__8 : decode cX12_bankOf_ 8 = .ok (.invokevirtual 131, 3) := by decide +kernel
theorem dX12_bankOf__11 : decode cX12_bankOf_ 11 = .ok (.ifCond .ne 7, 3) := by decide +kernel
theorem dX12_bankOf__14 : decode cX12_bankOf_ 14 = .ok (.iconst 1, 1) := by decide +kernel
theorem dX12_bankOf__15 : decode cX12_bankOf_ 15 = .ok (.goto 4, 3) := by decide +kernel
theorem dX12_bankOf__19 : decode cX12_bankOf_ 19 = .ok (.iconst 1, 1) := by decide +kernel
theorem dX12_bankOf__20 : decode cX12_bankOf_ 20 = .ok (.iconst 0, 1) := by decide +kernel
theorem dX12_bankOf__21 : decode cX12_bankOf_ 21 = .ok (.invokevirtual 114, 3) := by decide +kernel
theorem dX12_bankOf__24 : decode cX12_bankOf_ 24 = .ok (.ifCond .ne 26, 3) := by decide +kernel
theorem dX12_bankOf__50 : decode cX12_bankOf_ 50 = .ok (.lconst 0, 1) := by decide +kernel
theorem dX12_bankOf__51 : decode cX12_bankOf_ 51 = .ok (.lreturn, 1) := by decide +kernel
theorem dX12_bars_0 : decode cX12_bars 0 = .ok (.aload_n 0, 1) := by decide +kernel
theorem dX12_bars_1 : decode cX12_bars 1 = .ok (.iconst 0, 1) := by decide +kernel
theorem dX12_bars_2 : decode cX12_bars 2 = .ok (.putfield 56, 3) := by decide +kernel
theorem dX12_bars_5 : decode cX12_bars 5 = .ok (.aload_n 0, 1) := by decide +kernel
theorem dX12_bars_6 : decode cX12_bars 6 = .ok (.aload_n 0, 1) := by decide +kernel
theorem dX12_bars_7 : decode cX12_bars 7 = .ok (.iload_n 1, 1) := by decide +kernel
theorem dX12_bars_8 : decode cX12_bars 8 = .ok (.invokevirtual 144, 3) := by decide +kernel
theorem dX12_bars_11 : decode cX12_bars 11 = .ok (.ifCond .ne 7, 3) := by decide +kernel
theorem dX12_bars_14 : decode cX12_bars 14 = .ok (.iconst 1, 1) := by decide +kernel
theorem dX12_bars_15 : decode cX12_bars 15 = .ok (.goto 4, 3) := by decide +kernel
theorem dX12_bars_19 : decode cX12_bars 19 = .ok (.iconst 1, 1) := by decide +kernel
theorem dX12_bars_20 : decode cX12_bars 20 = .ok (.iconst 0, 1) := by decide +kernel
theorem dX12_bars_21 : decode cX12_bars 21 = .ok (.invokevirtual 114, 3) := by decide +kernel
theorem dX12_bars_24 : decode cX12_bars 24 = .ok (.ifCond .ne 24, 3) := by decide +kernel
theorem dX12_bars_48 : decode cX12_bars 48 = .ok (.iconst 0, 1) := by decide +kernel
theorem dX12_bars_49 : decode cX12_bars 49 = .ok (.ireturn, 1) := by decide +kernel
theorem dX12_busiest_0 : decode cX12_busiest 0 = .ok (.aload_n 0, 1) := by decide +kernel
theorem dX12_busiest_1 : decode cX12_busiest 1 = .ok (.iconst 0, 1) := by decide +kernel
theorem dX12_busiest_2 : decode cX12_busiest 2 = .ok (.putfield 56, 3) := by decide +kernel
theorem dX12_busiest_5 : decode cX12_busiest 5 = .ok (.aload_n 0, 1) := by decide +kernel
theorem dX12_busiest_6 : decode cX12_busiest 6 = .ok (.aload_n 0, 1) := by decide +kernel
theorem dX12_busiest_7 : decode cX12_busiest 7 = .ok (.iload_n 1, 1) := by decide +kernel
theorem dX12_busiest_8 : decode cX12_busiest 8 = .ok (.invokevirtual 144, 3) := by decide +kernel
theorem dX12_busiest_11 : decode cX12_busiest 11 = .ok (.ifCond .ne 7, 3) := by decide +kernel
theorem dX12_busiest_14 : decode cX12_busiest 14 = .ok (.iconst 1, 1) := by decide +kernel
theorem dX12_busiest_15 : decode cX12_busiest 15 = .ok (.goto 4, 3) := by decide +kernel
theorem dX12_busiest_19 : decode cX12_busiest 19 = .ok (.iconst 1, 1) := by decide +kernel
theorem dX12_busiest_20 : decode cX12_busiest 20 = .ok (.iconst 0, 1) := by decide +kernel
theorem dX12_busiest_21 : decode cX12_busiest 21 = .ok (.invokevirtual 114, 3) := by decide +kernel
theorem dX12_busiest_24 : decode cX12_busiest 24 = .ok (.ifCond .ne 26, 3) := by decide +kernel
theorem dX12_busiest_50 : decode cX12_busiest 50 = .ok (.iconst 0, 1) := by decide +kernel
theorem dX12_busiest_51 : decode cX12_busiest 51 = .ok (.ireturn, 1) := by decide +kernel
theorem dX12_cheapest_0 : decode cX12_cheapest 0 = .ok (.aload_n 0, 1) := by decide +kernel
theorem dX12_cheapest_1 : decode cX12_cheapest 1 = .ok (.iconst 0, 1) := by decide +kernel
theorem dX12_cheapest_2 : decode cX12_cheapest 2 = .ok (.putfield 56, 3) := by decide +kernel
theorem dX12_cheapest_5 : decode cX12_cheapest 5 = .ok (.aload_n 0, 1) := by decide +kernel
theorem dX12_cheapest_6 : decode cX12_cheapest 6 = .ok (.aload_n 0, 1) := by decide +kernel
theorem dX12_cheapest_7 : decode cX12_cheapest 7 = .ok (.iload_n 1, 1) := by decide +kernel
theorem dX12_cheapest_8 : decode cX12_cheapest 8 = .ok (.invokevirtual 291, 3) := by decide +kernel
theorem dX12_cheapest_11 : decode cX12_cheapest 11 = .ok (.ifCond .ne 7, 3) := by decide +kernel
theorem dX12_cheapest_14 : decode cX12_cheapest 14 = .ok (.iconst 1, 1) := by decide +kernel
theorem dX12_cheapest_15 : decode cX12_cheapest 15 = .ok (.goto 4, 3) := by decide +kernel
theorem dX12_cheapest_19 : decode cX12_cheapest 19 = .ok (.iconst 1, 1) := by decide +kernel
theorem dX12_cheapest_20 : decode cX12_cheapest 20 = .ok (.iconst 1, 1) := by decide +kernel
theorem dX12_cheapest_21 : decode cX12_cheapest 21 = .ok (.invokevirtual 114, 3) := by decide +kernel
theorem dX12_cheapest_24 : decode cX12_cheapest 24 = .ok (.ifCond .eq 5, 3) := by decide +kernel
theorem dX12_cheapest_27 : decode cX12_cheapest 27 = .ok (.iconst 0, 1) := by decide +kernel
theorem dX12_cheapest_28 : decode cX12_cheapest 28 = .ok (.ireturn, 1) := by decide +kernel
theorem dX12_days_0 : decode cX12_days 0 = .ok (.aload_n 0, 1) := by decide +kernel
theorem dX12_days_1 : decode cX12_days 1 = .ok (.iconst 0, 1) := by decide +kernel
theorem dX12_days_2 : decode cX12_days 2 = .ok (.putfield 56, 3) := by decide +kernel
theorem dX12_days_5 : decode cX12_days 5 = .ok (.aload_n 0, 1) := by decide +kernel
theorem dX12_days_6 : decode cX12_days 6 = .ok (.aload_n 0, 1) := by decide +kernel
theorem dX12_days_7 : decode cX12_days 7 = .ok (.iload_n 1, 1) := by decide +kernel
theorem dX12_days_8 : decode cX12_days 8 = .ok (.invokevirtual 127, 3) := by decide +kernel
theorem dX12_days_11 : decode cX12_days 11 = .ok (.ifCond .ne 7, 3) := by decide +kernel
theorem dX12_days_14 : decode cX12_days 14 = .ok (.iconst 1, 1) := by decide +kernel
theorem dX12_days_15 : decode cX12_days 15 = .ok (.goto 4, 3) := by decide +kernel
theorem dX12_days_19 : decode cX12_days 19 = .ok (.iconst 1, 1) := by decide +kernel
theorem dX12_days_20 : decode cX12_days 20 = .ok (.iconst 0, 1) := by decide +kernel
theorem dX12_days_21 : decode cX12_days 21 = .ok (.invokevirtual 114, 3) := by decide +kernel
theorem dX12_days_24 : decode cX12_days 24 = .ok (.ifCond .ne 39, 3) := by decide +kernel
theorem dX12_days_63 : decode cX12_days 63 = .ok (.iconst 0, 1) := by decide +kernel
theorem dX12_days_64 : decode cX12_days 64 = .ok (.ireturn, 1) := by decide +kernel
theorem dX12_delay_0 : decode cX12_delay 0 = .ok (.aload_n 0, 1) := by decide +kernel
theorem dX12_delay_1 : decode cX12_delay 1 = .ok (.iconst 0, 1) := by decide +kernel
theorem dX12_delay_2 : decode cX12_delay 2 = .ok (.putfield 56, 3) := by decide +kernel
theorem dX12_delay_5 : decode cX12_delay 5 = .ok (.aload_n 0, 1) := by decide +kernel
theorem dX12_delay_6 : decode cX12_delay 6 = .ok (.aload_n 0, 1) := by decide +kernel
theorem dX12_delay_7 : decode cX12_delay 7 = .ok (.iload_n 1, 1) := by decide +kernel
theorem dX12_delay_8 : decode cX12_delay 8 = .ok (.invokevirtual 144, 3) := by decide +kernel
theorem dX12_delay_11 : decode cX12_delay 11 = .ok (.ifCond .ne 7, 3) := by decide +kernel
theorem dX12_delay_14 : decode cX12_delay 14 = .ok (.iconst 1, 1) := by decide +kernel
theorem dX12_delay_15 : decode cX12_delay 15 = .ok (.goto 4, 3) := by decide +kernel
theorem dX12_delay_19 : decode cX12_delay 19 = .ok (.iconst 1, 1) := by decide +kernel
theorem dX12_delay_20 : decode cX12_delay 20 = .ok (.iconst 0, 1) := by decide +kernel
theorem dX12_delay_21 : decode cX12_delay 21 = .ok (.invokevirtual 114, 3) := by decide +kernel
theorem dX12_delay_24 : decode cX12_delay 24 = .ok (.ifCond .ne 24, 3) := by decide +kernel
theorem dX12_delay_48 : decode cX12_delay 48 = .ok (.iconst 0, 1) := by decide +kernel
theorem dX12_delay_49 : decode cX12_delay 49 = .ok (.ireturn, 1) := by decide +kernel
theorem dX12_draw_0 : decode cX12_draw 0 = .ok (.aload_n 0, 1) := by decide +kernel
theorem dX12_draw_1 : decode cX12_draw 1 = .ok (.iconst 0, 1) := by decide +kernel
theorem dX12_draw_2 : decode cX12_draw 2 = .ok (.putfield 56, 3) := by decide +kernel
theorem dX12_draw_5 : decode cX12_draw 5 = .ok (.aload_n 0, 1) := by decide +kernel
theorem dX12_draw_6 : decode cX12_draw 6 = .ok (.aload_n 0, 1) := by decide +kernel
theorem dX12_draw_7 : decode cX12_draw 7 = .ok (.iload_n 1, 1) := by decide +kernel
theorem dX12_draw_8 : decode cX12_draw 8 = .ok (.invokevirtual 144, 3) := by decide +kernel
theorem dX12_draw_11 : decode cX12_draw 11 = .ok (.ifCond .ne 7, 3) := by decide +kernel
theorem dX12_draw_14 : decode cX12_draw 14 = .ok (.iconst 1, 1) := by decide +kernel
theorem dX12_draw_15 : decode cX12_draw 15 = .ok (.goto 4, 3) := by decide +kernel
theorem dX12_draw_19 : decode cX12_draw 19 = .ok (.iconst 1, 1) := by decide +kernel
theorem dX12_draw_20 : decode cX12_draw 20 = .ok (.iconst 0, 1) := by decide +kernel
theorem dX12_draw_21 : decode cX12_draw 21 = .ok (.invokevirtual 114, 3) := by decide +kernel
theorem dX12_draw_24 : decode cX12_draw 24 = .ok (.ifCond .ne 27, 3) := by decide +kernel
theorem dX12_draw_51 : decode cX12_draw 51 = .ok (.iconst 0, 1) := by decide +kernel
theorem dX12_draw_52 : decode cX12_draw 52 = .ok (.ireturn, 1) := by decide +kernel
theorem dX12_due_0 : decode cX12_due 0 = .ok (.aload_n 0, 1) := by decide +kernel
theorem dX12_due_1 : decode cX12_due 1 = .ok (.iconst 0, 1) := by decide +kernel
theorem dX12_due_2 : decode cX12_due 2 = .ok (.putfield 56, 3) := by decide +kernel
theorem dX12_due_5 : decode cX12_due 5 = .ok (.aload_n 0, 1) := by decide +kernel
theorem dX12_due_6 : decode cX12_due 6 = .ok (.aload_n 0, 1) := by decide +kernel
theorem dX12_due_7 : decode cX12_due 7 = .ok (.iload_n 1, 1) := by decide +kernel
theorem dX12_due_8 : decode cX12_due 8 = .ok (.invokevirtual 131, 3) := by decide +kernel
theorem dX12_due_11 : decode cX12_due 11 = .ok (.ifCond .ne 7, 3) := by decide +kernel
theorem dX12_due_14 : decode cX12_due 14 = .ok (.iconst 1, 1) := by decide +kernel
theorem dX12_due_15 : decode cX12_due 15 = .ok (.goto 4, 3) := by decide +kernel
theorem dX12_due_19 : decode cX12_due 19 = .ok (.iconst 1, 1) := by decide +kernel
theorem dX12_due_20 : decode cX12_due 20 = .ok (.iconst 0, 1) := by decide +kernel
theorem dX12_due_21 : decode cX12_due 21 = .ok (.invokevirtual 114, 3) := by decide +kernel
theorem dX12_due_24 : decode cX12_due 24 = .ok (.ifCond .ne 28, 3) := by decide +kernel
theorem dX12_due_52 : decode cX12_due 52 = .ok (.lconst 0, 1) := by decide +kernel
theorem dX12_due_53 : decode cX12_due 53 = .ok (.lreturn, 1) := by decide +kernel
theorem dX12_fee_0 : decode cX12_fee 0 = .ok (.aload_n 0, 1) := by decide +kernel
theorem dX12_fee_1 : decode cX12_fee 1 = .ok (.iconst 0, 1) := by decide +kernel
theorem dX12_fee_2 : decode cX12_fee 2 = .ok (.putfield 56, 3) := by decide +kernel
theorem dX12_fee_5 : decode cX12_fee 5 = .ok (.aload_n 0, 1) := by decide +kernel
theorem dX12_fee_6 : decode cX12_fee 6 = .ok (.aload_n 0, 1) := by decide +kernel
theorem dX12_fee_7 : decode cX12_fee 7 = .ok (.iload_n 1, 1) := by decide +kernel
theorem dX12_fee_8 : decode cX12_fee 8 = .ok (.invokevirtual 144, 3) := by decide +kernel
theorem dX12_fee_11 : decode cX12_fee 11 = .ok (.ifCond .ne 7, 3) := by decide +kernel
theorem dX12_fee_14 : decode cX12_fee 14 = .ok (.iconst 1, 1) := by decide +kernel
theorem dX12_fee_15 : decode cX12_fee 15 = .ok (.goto 4, 3) := by decide +kernel
theorem dX12_fee_19 : decode cX12_fee 19 = .ok (.iconst 1, 1) := by decide +kernel
theorem dX12_fee_20 : decode cX12_fee 20 = .ok (.iconst 0, 1) := by decide +kernel
theorem dX12_fee_21 : decode cX12_fee 21 = .ok (.invokevirtual 114, 3) := by decide +kernel
theorem dX12_fee_24 : decode cX12_fee 24 = .ok (.ifCond .ne 27, 3) := by decide +kernel
theorem dX12_fee_51 : decode cX12_fee 51 = .ok (.iconst 0, 1) := by decide +kernel
theorem dX12_fee_52 : decode cX12_fee 52 = .ok (.ireturn, 1) := by decide +kernel
theorem dX12_fewest_0 : decode cX12_fewest 0 = .ok (.aload_n 0, 1) := by decide +kernel
theorem dX12_fewest_1 : decode cX12_fewest 1 = .ok (.iconst 0, 1) := by decide +kernel
theorem dX12_fewest_2 : decode cX12_fewest 2 = .ok (.putfield 56, 3) := by decide +kernel
theorem dX12_fewest_5 : decode cX12_fewest 5 = .ok (.aload_n 0, 1) := by decide +kernel
theorem dX12_fewest_6 : decode cX12_fewest 6 = .ok (.aload_n 0, 1) := by decide +kernel
theorem dX12_fewest_7 : decode cX12_fewest 7 = .ok (.iload_n 1, 1) := by decide +kernel
theorem dX12_fewest_8 : decode cX12_fewest 8 = .ok (.invokevirtual 291, 3) := by decide +kernel
theorem dX12_fewest_11 : decode cX12_fewest 11 = .ok (.ifCond .ne 7, 3) := by decide +kernel
theorem dX12_fewest_14 : decode cX12_fewest 14 = .ok (.iconst 1, 1) := by decide +kernel
theorem dX12_fewest_15 : decode cX12_fewest 15 = .ok (.goto 4, 3) := by decide +kernel
theorem dX12_fewest_19 : decode cX12_fewest 19 = .ok (.iconst 1, 1) := by decide +kernel
theorem dX12_fewest_20 : decode cX12_fewest 20 = .ok (.iconst 1, 1) := by decide +kernel
theorem dX12_fewest_21 : decode cX12_fewest 21 = .ok (.invokevirtual 114, 3) := by decide +kernel
theorem dX12_fewest_24 : decode cX12_fewest 24 = .ok (.ifCond .eq 5, 3) := by decide +kernel
theorem dX12_fewest_27 : decode cX12_fewest 27 = .ok (.iconst 0, 1) := by decide +kernel
theorem dX12_fewest_28 : decode cX12_fewest 28 = .ok (.ireturn, 1) := by decide +kernel
theorem dX12_firstOfAll_0 : decode cX12_firstOfAll 0 = .ok (.iconst (-1), 1) := by decide +kernel
theorem dX12_firstOfAll_1 : decode cX12_firstOfAll 1 = .ok (.istore_n 1, 1) := by decide +kernel
theorem dX12_firstOfAll_2 : decode cX12_firstOfAll 2 = .ok (.iconst 0, 1) := by decide +kernel
theorem dX12_firstOfAll_3 : decode cX12_firstOfAll 3 = .ok (.istore_n 2, 1) := by decide +kernel
theorem dX12_firstOfAll_4 : decode cX12_firstOfAll 4 = .ok (.iload_n 2, 1) := by decide +kernel
theorem dX12_firstOfAll_5 : decode cX12_firstOfAll 5 = .ok (.aload_n 0, 1) := by decide +kernel
theorem dX12_firstOfAll_6 : decode cX12_firstOfAll 6 = .ok (.getfield 151, 3) := by decide +kernel
theorem dX12_firstOfAll_9 : decode cX12_firstOfAll 9 = .ok (.if_icmp .ge 39, 3) := by decide +kernel
theorem dX12_firstOfAll_48 : decode cX12_firstOfAll 48 = .ok (.iload_n 1, 1) := by decide +kernel
theorem dX12_firstOfAll_49 : decode cX12_firstOfAll 49 = .ok (.ireturn, 1) := by decide +kernel
theorem dX12_forecast_0 : decode cX12_forecast 0 = .ok (.aload_n 0, 1) := by decide +kernel
theorem dX12_forecast_1 : decode cX12_forecast 1 = .ok (.iconst 0, 1) := by decide +kernel
theorem dX12_forecast_2 : decode cX12_forecast 2 = .ok (.putfield 56, 3) := by decide +kernel
theorem dX12_forecast_5 : decode cX12_forecast 5 = .ok (.aload_n 0, 1) := by decide +kernel
theorem dX12_forecast_6 : decode cX12_forecast 6 = .ok (.aload_n 0, 1) := by decide +kernel
theorem dX12_forecast_7 : decode cX12_forecast 7 = .ok (.iload_n 1, 1) := by decide +kernel
theorem dX12_forecast_8 : decode cX12_forecast 8 = .ok (.invokevirtual 144, 3) := by decide +kernel
theorem dX12_forecast_11 : decode cX12_forecast 11 = .ok (.ifCond .ne 7, 3) := by decide +kernel
theorem dX12_forecast_14 : decode cX12_forecast 14 = .ok (.iconst 1, 1) := by decide +kernel
theorem dX12_forecast_15 : decode cX12_forecast 15 = .ok (.goto 4, 3) := by decide +kernel
theorem dX12_forecast_19 : decode cX12_forecast 19 = .ok (.iconst 1, 1) := by decide +kernel
theorem dX12_forecast_20 : decode cX12_forecast 20 = .ok (.iconst 0, 1) := by decide +kernel
theorem dX12_forecast_21 : decode cX12_forecast 21 = .ok (.invokevirtual 114, 3) := by decide +kernel
theorem dX12_forecast_24 : decode cX12_forecast 24 = .ok (.ifCond .ne 30, 3) := by decide +kernel
theorem dX12_forecast_54 : decode cX12_forecast 54 = .ok (.iconst 0, 1) := by decide +kernel
theorem dX12_forecast_55 : decode cX12_forecast 55 = .ok (.ireturn, 1) := by decide +kernel
theorem dX12_fund_0 : decode cX12_fund 0 = .ok (.aload_n 0, 1) := by decide +kernel
theorem dX12_fund_1 : decode cX12_fund 1 = .ok (.iconst 0, 1) := by decide +kernel
theorem dX12_fund_2 : decode cX12_fund 2 = .ok (.putfield 56, 3) := by decide +kernel
theorem dX12_fund_5 : decode cX12_fund 5 = .ok (.aload_n 0, 1) := by decide +kernel
theorem dX12_fund_6 : decode cX12_fund 6 = .ok (.aload_n 0, 1) := by decide +kernel
theorem dX12_fund_7 : decode cX12_fund 7 = .ok (.iload_n 1, 1) := by decide +kernel
theorem dX12_fund_8 : decode cX12_fund 8 = .ok (.invokevirtual 144, 3) := by decide +kernel
theorem dX12_fund_11 : decode cX12_fund 11 = .ok (.ifCond .ne 7, 3) := by decide +kernel
theorem dX12_fund_14 : decode cX12_fund 14 = .ok (.iconst 1, 1) := by decide +kernel
theorem dX12_fund_15 : decode cX12_fund 15 = .ok (.goto 4, 3) := by decide +kernel
theorem dX12_fund_19 : decode cX12_fund 19 = .ok (.iconst 1, 1) := by decide +kernel
theorem dX12_fund_20 : decode cX12_fund 20 = .ok (.iconst 0, 1) := by decide +kernel
theorem dX12_fund_21 : decode cX12_fund 21 = .ok (.invokevirtual 114, 3) := by decide +kernel
theorem dX12_fund_24 : decode cX12_fund 24 = .ok (.ifCond .ne 27, 3) := by decide +kernel
theorem dX12_fund_51 : decode cX12_fund 51 = .ok (.iconst 0, 1) := by decide +kernel
theorem dX12_fund_52 : decode cX12_fund 52 = .ok (.ireturn, 1) := by decide +kernel
theorem dX12_go_0 : decode cX12_go 0 = .ok (.aload_n 0, 1) := by decide +kernel
theorem dX12_go_1 : decode cX12_go 1 = .ok (.iconst 0, 1) := by decide +kernel
theorem dX12_go_2 : decode cX12_go 2 = .ok (.putfield 56, 3) := by decide +kernel
theorem dX12_go_5 : decode cX12_go 5 = .ok (.aload_n 0, 1) := by decide +kernel
theorem dX12_go_6 : decode cX12_go 6 = .ok (.iload_n 1, 1) := by decide +kernel
theorem dX12_go_7 : decode cX12_go 7 = .ok (.iconst 1, 1) := by decide +kernel
theorem dX12_go_8 : decode cX12_go 8 = .ok (.sipush 20160, 3) := by decide +kernel
theorem dX12_go_11 : decode cX12_go 11 = .ok (.invokestatic 74, 3) := by decide +kernel
theorem dX12_go_14 : decode cX12_go 14 = .ok (.ifCond .ne 7, 3) := by decide +kernel
theorem dX12_go_17 : decode cX12_go 17 = .ok (.iconst 1, 1) := by decide +kernel
theorem dX12_go_18 : decode cX12_go 18 = .ok (.goto 4, 3) := by decide +kernel
theorem dX12_go_21 : decode cX12_go 21 = .ok (.iconst 0, 1) := by decide +kernel
theorem dX12_go_22 : decode cX12_go 22 = .ok (.iconst 1, 1) := by decide +kernel
theorem dX12_go_23 : decode cX12_go 23 = .ok (.iconst 1, 1) := by decide +kernel
theorem dX12_go_24 : decode cX12_go 24 = .ok (.invokevirtual 114, 3) := by decide +kernel
theorem dX12_go_27 : decode cX12_go 27 = .ok (.ifCond .eq 5, 3) := by decide +kernel
theorem dX12_go_30 : decode cX12_go 30 = .ok (.iconst 0, 1) := by decide +kernel
theorem dX12_go_31 : decode cX12_go 31 = .ok (.ireturn, 1) := by decide +kernel
theorem dX12_go_32 : decode cX12_go 32 = .ok (.aload_n 0, 1) := by decide +kernel
theorem dX12_go_33 : decode cX12_go 33 = .ok (.getfield 158, 3) := by decide +kernel
theorem dX12_go_36 : decode cX12_go 36 = .ok (.iload_n 1, 1) := by decide +kernel
theorem dX12_go_37 : decode cX12_go 37 = .ok (.iadd, 1) := by decide +kernel
theorem dX12_go_38 : decode cX12_go 38 = .ok (.ldc 78, 2) := by decide +kernel
theorem dX12_go_40 : decode cX12_go 40 = .ok (.if_icmp .le 5, 3) := by decide +kernel
theorem dX12_go_43 : decode cX12_go 43 = .ok (.iconst (-1), 1) := by decide +kernel
theorem dX12_go_44 : decode cX12_go 44 = .ok (.ireturn, 1) := by decide +kernel
theorem dX12_go_45 : decode cX12_go 45 = .ok (.aload_n 0, 1) := by decide +kernel
theorem dX12_go_46 : decode cX12_go 46 = .ok (.dup, 1) := by decide +kernel
theorem dX12_go_47 : decode cX12_go 47 = .ok (.getfield 158, 3) := by decide +kernel
theorem dX12_go_50 : decode cX12_go 50 = .ok (.iload_n 1, 1) := by decide +kernel
theorem dX12_go_51 : decode cX12_go 51 = .ok (.iadd, 1) := by decide +kernel
theorem dX12_go_52 : decode cX12_go 52 = .ok (.putfield 158, 3) := by decide +kernel
theorem dX12_go_55 : decode cX12_go 55 = .ok (.aload_n 0, 1) := by decide +kernel
theorem dX12_go_56 : decode cX12_go 56 = .ok (.iconst 0, 1) := by decide +kernel
theorem dX12_go_57 : decode cX12_go 57 = .ok (.putfield 205, 3) := by decide +kernel
theorem dX12_go_60 : decode cX12_go 60 = .ok (.aload_n 0, 1) := by decide +kernel
theorem dX12_go_61 : decode cX12_go 61 = .ok (.invokevirtual 208, 3) := by decide +kernel
theorem dX12_go_64 : decode cX12_go 64 = .ok (.istore_n 2, 1) := by decide +kernel
theorem dX12_go_65 : decode cX12_go 65 = .ok (.iload_n 2, 1) := by decide +kernel
theorem dX12_go_66 : decode cX12_go 66 = .ok (.iconst (-1), 1) := by decide +kernel
theorem dX12_go_67 : decode cX12_go 67 = .ok (.if_icmp .eq 28, 3) := by decide +kernel
theorem dX12_go_95 : decode cX12_go 95 = .ok (.aload_n 0, 1) := by decide +kernel
theorem dX12_go_96 : decode cX12_go 96 = .ok (.iconst 0, 1) := by decide +kernel
theorem dX12_go_97 : decode cX12_go 97 = .ok (.putfield 140, 3) := by decide +kernel
theorem dX12_go_100 : decode cX12_go 100 = .ok (.aload_n 0, 1) := by decide +kernel
theorem dX12_go_101 : decode cX12_go 101 = .ok (.getfield 205, 3) := by decide +kernel
theorem dX12_go_104 : decode cX12_go 104 = .ok (.ireturn, 1) := by decide +kernel
theorem dX12_holiday_0 : decode cX12_holiday 0 = .ok (.aload_n 0, 1) := by decide +kernel
theorem dX12_holiday_1 : decode cX12_holiday 1 = .ok (.iconst 0, 1) := by decide +kernel
theorem dX12_holiday_2 : decode cX12_holiday 2 = .ok (.putfield 56, 3) := by decide +kernel
theorem dX12_holiday_5 : decode cX12_holiday 5 = .ok (.aload_n 0, 1) := by decide +kernel
theorem dX12_holiday_6 : decode cX12_holiday 6 = .ok (.aload_n 0, 1) := by decide +kernel
theorem dX12_holiday_7 : decode cX12_holiday 7 = .ok (.iload_n 1, 1) := by decide +kernel
theorem dX12_holiday_8 : decode cX12_holiday 8 = .ok (.invokevirtual 127, 3) := by decide +kernel
theorem dX12_holiday_11 : decode cX12_holiday 11 = .ok (.ifCond .ne 7, 3) := by decide +kernel
theorem dX12_holiday_14 : decode cX12_holiday 14 = .ok (.iconst 1, 1) := by decide +kernel
theorem dX12_holiday_15 : decode cX12_holiday 15 = .ok (.goto 4, 3) := by decide +kernel
theorem dX12_holiday_19 : decode cX12_holiday 19 = .ok (.iconst 1, 1) := by decide +kernel
theorem dX12_holiday_20 : decode cX12_holiday 20 = .ok (.iconst 0, 1) := by decide +kernel
theorem dX12_holiday_21 : decode cX12_holiday 21 = .ok (.invokevirtual 114, 3) := by decide +kernel
theorem dX12_holiday_24 : decode cX12_holiday 24 = .ok (.ifCond .ne 28, 3) := by decide +kernel
theorem dX12_holiday_52 : decode cX12_holiday 52 = .ok (.iconst 0, 1) := by decide +kernel
theorem dX12_holiday_53 : decode cX12_holiday 53 = .ok (.ireturn, 1) := by decide +kernel
theorem dX12_hours_0 : decode cX12_hours 0 = .ok (.aload_n 0, 1) := by decide +kernel
theorem dX12_hours_1 : decode cX12_hours 1 = .ok (.iconst 0, 1) := by decide +kernel
theorem dX12_hours_2 : decode cX12_hours 2 = .ok (.putfield 56, 3) := by decide +kernel
theorem dX12_hours_5 : decode cX12_hours 5 = .ok (.aload_n 0, 1) := by decide +kernel
theorem dX12_hours_6 : decode cX12_hours 6 = .ok (.aload_n 0, 1) := by decide +kernel
theorem dX12_hours_7 : decode cX12_hours 7 = .ok (.iload_n 1, 1) := by decide +kernel
theorem dX12_hours_8 : decode cX12_hours 8 = .ok (.invokevirtual 144, 3) := by decide +kernel
theorem dX12_hours_11 : decode cX12_hours 11 = .ok (.ifCond .ne 7, 3) := by decide +kernel
theorem dX12_hours_14 : decode cX12_hours 14 = .ok (.iconst 1, 1) := by decide +kernel
theorem dX12_hours_15 : decode cX12_hours 15 = .ok (.goto 4, 3) := by decide +kernel
theorem dX12_hours_19 : decode cX12_hours 19 = .ok (.iconst 1, 1) := by decide +kernel
theorem dX12_hours_20 : decode cX12_hours 20 = .ok (.iconst 0, 1) := by decide +kernel
theorem dX12_hours_21 : decode cX12_hours 21 = .ok (.invokevirtual 114, 3) := by decide +kernel
theorem dX12_hours_24 : decode cX12_hours 24 = .ok (.ifCond .ne 28, 3) := by decide +kernel
theorem dX12_hours_52 : decode cX12_hours 52 = .ok (.iconst 0, 1) := by decide +kernel
theorem dX12_hours_53 : decode cX12_hours 53 = .ok (.ireturn, 1) := by decide +kernel
theorem dX12_idle_0 : decode cX12_idle 0 = .ok (.aload_n 0, 1) := by decide +kernel
theorem dX12_idle_1 : decode cX12_idle 1 = .ok (.iconst 0, 1) := by decide +kernel
theorem dX12_idle_2 : decode cX12_idle 2 = .ok (.putfield 56, 3) := by decide +kernel
theorem dX12_idle_5 : decode cX12_idle 5 = .ok (.aload_n 0, 1) := by decide +kernel
theorem dX12_idle_6 : decode cX12_idle 6 = .ok (.aload_n 0, 1) := by decide +kernel
theorem dX12_idle_7 : decode cX12_idle 7 = .ok (.iload_n 1, 1) := by decide +kernel
theorem dX12_idle_8 : decode cX12_idle 8 = .ok (.invokevirtual 127, 3) := by decide +kernel
theorem dX12_idle_11 : decode cX12_idle 11 = .ok (.ifCond .ne 7, 3) := by decide +kernel
theorem dX12_idle_14 : decode cX12_idle 14 = .ok (.iconst 1, 1) := by decide +kernel
theorem dX12_idle_15 : decode cX12_idle 15 = .ok (.goto 4, 3) := by decide +kernel
theorem dX12_idle_19 : decode cX12_idle 19 = .ok (.iconst 1, 1) := by decide +kernel
theorem dX12_idle_20 : decode cX12_idle 20 = .ok (.iconst 0, 1) := by decide +kernel
theorem dX12_idle_21 : decode cX12_idle 21 = .ok (.invokevirtual 114, 3) := by decide +kernel
theorem dX12_idle_24 : decode cX12_idle 24 = .ok (.ifCond .ne 28, 3) := by decide +kernel
theorem dX12_idle_52 : decode cX12_idle 52 = .ok (.iconst 0, 1) := by decide +kernel
theorem dX12_idle_53 : decode cX12_idle 53 = .ok (.ireturn, 1) := by decide +kernel
theorem dX12_in_0 : decode cX12_in 0 = .ok (.iload_n 0, 1) := by decide +kernel
theorem dX12_in_1 : decode cX12_in 1 = .ok (.iload_n 1, 1) := by decide +kernel
theorem dX12_in_2 : decode cX12_in 2 = .ok (.if_icmp .lt 12, 3) := by decide +kernel
theorem dX12_in_5 : decode cX12_in 5 = .ok (.iload_n 0, 1) := by decide +kernel
theorem dX12_in_6 : decode cX12_in 6 = .ok (.iload_n 2, 1) := by decide +kernel
theorem dX12_in_7 : decode cX12_in 7 = .ok (.if_icmp .gt 7, 3) := by decide +kernel
theorem dX12_in_10 : decode cX12_in 10 = .ok (.iconst 1, 1) := by decide +kernel
theorem dX12_in_11 : decode cX12_in 11 = .ok (.goto 4, 3) := by decide +kernel
theorem dX12_in_14 : decode cX12_in 14 = .ok (.iconst 0, 1) := by decide +kernel
theorem dX12_in_15 : decode cX12_in 15 = .ok (.ireturn, 1) := by decide +kernel
theorem dX12_inState_0 : decode cX12_inState 0 = .ok (.iconst 0, 1) := by decide +kernel
theorem dX12_inState_1 : decode cX12_inState 1 = .ok (.istore_n 2, 1) := by decide +kernel
theorem dX12_inState_2 : decode cX12_inState 2 = .ok (.iconst 0, 1) := by decide +kernel
theorem dX12_inState_3 : decode cX12_inState 3 = .ok (.istore_n 3, 1) := by decide +kernel
theorem dX12_inState_4 : decode cX12_inState 4 = .ok (.iload_n 3, 1) := by decide +kernel
theorem dX12_inState_5 : decode cX12_inState 5 = .ok (.aload_n 0, 1) := by decide +kernel
theorem dX12_inState_6 : decode cX12_inState 6 = .ok (.getfield 151, 3) := by decide +kernel
theorem dX12_inState_9 : decode cX12_inState 9 = .ok (.if_icmp .ge 29, 3) := by decide +kernel
theorem dX12_inState_38 : decode cX12_inState 38 = .ok (.iload_n 2, 1) := by decide +kernel
theorem dX12_inState_39 : decode cX12_inState 39 = .ok (.ireturn, 1) := by decide +kernel
theorem dX12_init_0 : decode cX12_init 0 = .ok (.aload_n 0, 1) := by decide +kernel
theorem dX12_init_1 : decode cX12_init 1 = .ok (.invokespecial 1, 3) := by decide +kernel
theorem dX12_init_4 : decode cX12_init 4 = .ok (.aload_n 0, 1) := by decide +kernel
theorem dX12_init_5 : decode cX12_init 5 = .ok (.iconst 2, 1) := by decide +kernel
theorem dX12_init_6 : decode cX12_init 6 = .ok (.newarray .int, 2) := by decide +kernel
theorem dX12_init_8 : decode cX12_init 8 = .ok (.putfield 7, 3) := by decide +kernel
theorem dX12_init_11 : decode cX12_init 11 = .ok (.aload_n 0, 1) := by decide +kernel
theorem dX12_init_12 : decode cX12_init 12 = .ok (.bipush 6, 2) := by decide +kernel
theorem dX12_init_14 : decode cX12_init 14 = .ok (.iconst 5, 1) := by decide +kernel
theorem dX12_init_15 : decode cX12_init 15 = .ok (.multianewarray 13 2, 4) := by decide +kernel
theorem dX12_init_19 : decode cX12_init 19 = .ok (.putfield 15, 3) := by decide +kernel
theorem dX12_init_22 : decode cX12_init 22 = .ok (.aload_n 0, 1) := by decide +kernel
theorem dX12_init_23 : decode cX12_init 23 = .ok (.bipush 6, 2) := by decide +kernel
theorem dX12_init_25 : decode cX12_init 25 = .ok (.bipush 40, 2) := by decide +kernel
theorem dX12_init_27 : decode cX12_init 27 = .ok (.multianewarray 13 2, 4) := by decide +kernel
theorem dX12_init_31 : decode cX12_init 31 = .ok (.putfield 18, 3) := by decide +kernel
theorem dX12_init_34 : decode cX12_init 34 = .ok (.aload_n 0, 1) := by decide +kernel
theorem dX12_init_35 : decode cX12_init 35 = .ok (.bipush 48, 2) := by decide +kernel
theorem dX12_init_37 : decode cX12_init 37 = .ok (.bipush 17, 2) := by decide +kernel
theorem dX12_init_39 : decode cX12_init 39 = .ok (.multianewarray 13 2, 4) := by decide +kernel
theorem dX12_init_43 : decode cX12_init 43 = .ok (.putfield 21, 3) := by decide +kernel
theorem dX12_init_46 : decode cX12_init 46 = .ok (.aload_n 0, 1) := by decide +kernel
theorem dX12_init_47 : decode cX12_init 47 = .ok (.bipush 48, 2) := by decide +kernel
theorem dX12_init_49 : decode cX12_init 49 = .ok (.sipush 402, 3) := by decide +kernel
theorem dX12_init_52 : decode cX12_init 52 = .ok (.multianewarray 13 2, 4) := by decide +kernel
theorem dX12_init_56 : decode cX12_init 56 = .ok (.putfield 24, 3) := by decide +kernel
theorem dX12_init_59 : decode cX12_init 59 = .ok (.aload_n 0, 1) := by decide +kernel
theorem dX12_init_60 : decode cX12_init 60 = .ok (.bipush 16, 2) := by decide +kernel
theorem dX12_init_62 : decode cX12_init 62 = .ok (.newarray .int, 2) := by decide +kernel
theorem dX12_init_64 : decode cX12_init 64 = .ok (.putfield 27, 3) := by decide +kernel
theorem dX12_init_67 : decode cX12_init 67 = .ok (.aload_n 0, 1) := by decide +kernel
theorem dX12_init_68 : decode cX12_init 68 = .ok (.bipush 48, 2) := by decide +kernel
theorem dX12_init_70 : decode cX12_init 70 = .ok (.bipush 12, 2) := by decide +kernel
theorem dX12_init_72 : decode cX12_init 72 = .ok (.iconst 5, 1) := by decide +kernel
theorem dX12_init_73 : decode cX12_init 73 = .ok (.multianewarray 30 3, 4) := by decide +kernel
theorem dX12_init_77 : decode cX12_init 77 = .ok (.putfield 32, 3) := by decide +kernel
theorem dX12_init_80 : decode cX12_init 80 = .ok (.aload_n 0, 1) := by decide +kernel
theorem dX12_init_81 : decode cX12_init 81 = .ok (.bipush 64, 2) := by decide +kernel
theorem dX12_init_83 : decode cX12_init 83 = .ok (.iconst 5, 1) := by decide +kernel
theorem dX12_init_84 : decode cX12_init 84 = .ok (.multianewarray 13 2, 4) := by decide +kernel
theorem dX12_init_88 : decode cX12_init 88 = .ok (.putfield 35, 3) := by decide +kernel
theorem dX12_init_91 : decode cX12_init 91 = .ok (.aload_n 0, 1) := by decide +kernel
theorem dX12_init_92 : decode cX12_init 92 = .ok (.bipush 64, 2) := by decide +kernel
theorem dX12_init_94 : decode cX12_init 94 = .ok (.iconst 5, 1) := by decide +kernel
theorem dX12_init_95 : decode cX12_init 95 = .ok (.bipush 8, 2) := by decide +kernel
theorem dX12_init_97 : decode cX12_init 97 = .ok (.multianewarray 30 3, 4) := by decide +kernel
theorem dX12_init_101 : decode cX12_init 101 = .ok (.putfield 38, 3) := by decide +kernel
theorem dX12_init_104 : decode cX12_init 104 = .ok (.aload_n 0, 1) := by decide +kernel
theorem dX12_init_105 : decode cX12_init 105 = .ok (.iconst 4, 1) := by decide +kernel
theorem dX12_init_106 : decode cX12_init 106 = .ok (.newarray .int, 2) := by decide +kernel
theorem dX12_init_108 : decode cX12_init 108 = .ok (.putfield 41, 3) := by decide +kernel
theorem dX12_init_111 : decode cX12_init 111 = .ok (.aload_n 0, 1) := by decide +kernel
theorem dX12_init_112 : decode cX12_init 112 = .ok (.sipush 4096, 3) := by decide +kernel
theorem dX12_init_115 : decode cX12_init 115 = .ok (.bipush 8, 2) := by decide +kernel
theorem dX12_init_117 : decode cX12_init 117 = .ok (.multianewarray 13 2, 4) := by decide +kernel
theorem dX12_init_121 : decode cX12_init 121 = .ok (.putfield 44, 3) := by decide +kernel
theorem dX12_init_124 : decode cX12_init 124 = .ok (.aload_n 0, 1) := by decide +kernel
theorem dX12_init_125 : decode cX12_init 125 = .ok (.iconst 5, 1) := by decide +kernel
theorem dX12_init_126 : decode cX12_init 126 = .ok (.newarray .int, 2) := by decide +kernel
theorem dX12_init_128 : decode cX12_init 128 = .ok (.putfield 47, 3) := by decide +kernel
theorem dX12_init_131 : decode cX12_init 131 = .ok (.aload_n 0, 1) := by decide +kernel
theorem dX12_init_132 : decode cX12_init 132 = .ok (.bipush 16, 2) := by decide +kernel
theorem dX12_init_134 : decode cX12_init 134 = .ok (.newarray .int, 2) := by decide +kernel
theorem dX12_init_136 : decode cX12_init 136 = .ok (.putfield 50, 3) := by decide +kernel
theorem dX12_init_139 : decode cX12_init 139 = .ok (.aload_n 0, 1) := by decide +kernel
theorem dX12_init_140 : decode cX12_init 140 = .ok (.bipush 16, 2) := by decide +kernel
theorem dX12_init_142 : decode cX12_init 142 = .ok (.newarray .int, 2) := by decide +kernel
theorem dX12_init_144 : decode cX12_init 144 = .ok (.putfield 53, 3) := by decide +kernel
theorem dX12_init_147 : decode cX12_init 147 = .ok (.return_, 1) := by decide +kernel
theorem dX12_isAccount_0 : decode cX12_isAccount 0 = .ok (.iload_n 1, 1) := by decide +kernel
theorem dX12_isAccount_1 : decode cX12_isAccount 1 = .ok (.iconst 0, 1) := by decide +kernel
theorem dX12_isAccount_2 : decode cX12_isAccount 2 = .ok (.aload_n 0, 1) := by decide +kernel
theorem dX12_isAccount_3 : decode cX12_isAccount 3 = .ok (.getfield 124, 3) := by decide +kernel
theorem dX12_isAccount_6 : decode cX12_isAccount 6 = .ok (.iconst 1, 1) := by decide +kernel
theorem dX12_isAccount_7 : decode cX12_isAccount 7 = .ok (.isub, 1) := by decide +kernel
theorem dX12_isAccount_8 : decode cX12_isAccount 8 = .ok (.invokestatic 74, 3) := by decide +kernel
theorem dX12_isAccount_11 : decode cX12_isAccount 11 = .ok (.ireturn, 1) := by decide +kernel
theorem dX12_isAsked_0 : decode cX12_isAsked 0 = .ok (.aload_n 0, 1) := by decide +kernel
theorem dX12_isAsked_1 : decode cX12_isAsked 1 = .ok (.getfield 249, 3) := by decide +kernel
theorem dX12_isAsked_4 : decode cX12_isAsked 4 = .ok (.ifCond .eq 17, 3) := by decide +kernel
theorem dX12_isAsked_21 : decode cX12_isAsked 21 = .ok (.iconst 0, 1) := by decide +kernel
theorem dX12_isAsked_22 : decode cX12_isAsked 22 = .ok (.ireturn, 1) := by decide +kernel
theorem dX12_isBank_0 : decode cX12_isBank 0 = .ok (.iload_n 1, 1) := by decide +kernel
theorem dX12_isBank_1 : decode cX12_isBank 1 = .ok (.iconst 0, 1) := by decide +kernel
theorem dX12_isBank_2 : decode cX12_isBank 2 = .ok (.aload_n 0, 1) := by decide +kernel
theorem dX12_isBank_3 : decode cX12_isBank 3 = .ok (.getfield 121, 3) := by decide +kernel
theorem dX12_isBank_6 : decode cX12_isBank 6 = .ok (.iconst 1, 1) := by decide +kernel
theorem dX12_isBank_7 : decode cX12_isBank 7 = .ok (.isub, 1) := by decide +kernel
theorem dX12_isBank_8 : decode cX12_isBank 8 = .ok (.invokestatic 74, 3) := by decide +kernel
theorem dX12_isBank_11 : decode cX12_isBank 11 = .ok (.ireturn, 1) := by decide +kernel
theorem dX12_isPayment_0 : decode cX12_isPayment 0 = .ok (.iload_n 1, 1) := by decide +kernel
theorem dX12_isPayment_1 : decode cX12_isPayment 1 = .ok (.iconst 0, 1) := by decide +kernel
theorem dX12_isPayment_2 : decode cX12_isPayment 2 = .ok (.aload_n 0, 1) := by decide +kernel
theorem dX12_isPayment_3 : decode cX12_isPayment 3 = .ok (.getfield 151, 3) := by decide +kernel
theorem dX12_isPayment_6 : decode cX12_isPayment 6 = .ok (.iconst 1, 1) := by decide +kernel
theorem dX12_isPayment_7 : decode cX12_isPayment 7 = .ok (.isub, 1) := by decide +kernel
theorem dX12_isPayment_8 : decode cX12_isPayment 8 = .ok (.invokestatic 74, 3) := by decide +kernel
theorem dX12_isPayment_11 : decode cX12_isPayment 11 = .ok (.ireturn, 1) := by decide +kernel
theorem dX12_isPlace_0 : decode cX12_isPlace 0 = .ok (.iload_n 1, 1) := by decide +kernel
theorem dX12_isPlace_1 : decode cX12_isPlace 1 = .ok (.iconst 0, 1) := by decide +kernel
theorem dX12_isPlace_2 : decode cX12_isPlace 2 = .ok (.aload_n 0, 1) := by decide +kernel
theorem dX12_isPlace_3 : decode cX12_isPlace 3 = .ok (.getfield 118, 3) := by decide +kernel
theorem dX12_isPlace_6 : decode cX12_isPlace 6 = .ok (.iconst 1, 1) := by decide +kernel
theorem dX12_isPlace_7 : decode cX12_isPlace 7 = .ok (.isub, 1) := by decide +kernel
theorem dX12_isPlace_8 : decode cX12_isPlace 8 = .ok (.invokestatic 74, 3) := by decide +kernel
theorem dX12_isPlace_11 : decode cX12_isPlace 11 = .ok (.ireturn, 1) := by decide +kernel
theorem dX12_isRoute_0 : decode cX12_isRoute 0 = .ok (.aload_n 0, 1) := by decide +kernel
theorem dX12_isRoute_1 : decode cX12_isRoute 1 = .ok (.invokevirtual 255, 3) := by decide +kernel
theorem dX12_isRoute_4 : decode cX12_isRoute 4 = .ok (.aload_n 0, 1) := by decide +kernel
theorem dX12_isRoute_5 : decode cX12_isRoute 5 = .ok (.getfield 249, 3) := by decide +kernel
theorem dX12_isRoute_8 : decode cX12_isRoute 8 = .ok (.ifCond .eq 21, 3) := by decide +kernel
theorem dX12_isRoute_29 : decode cX12_isRoute 29 = .ok (.iconst 0, 1) := by decide +kernel
theorem dX12_isRoute_30 : decode cX12_isRoute 30 = .ok (.ireturn, 1) := by decide +kernel
theorem dX12_late_0 : decode cX12_late 0 = .ok (.aload_n 0, 1) := by decide +kernel
theorem dX12_late_1 : decode cX12_late 1 = .ok (.iconst 0, 1) := by decide +kernel
theorem dX12_late_2 : decode cX12_late 2 = .ok (.putfield 56, 3) := by decide +kernel
theorem dX12_late_5 : decode cX12_late 5 = .ok (.aload_n 0, 1) := by decide +kernel
theorem dX12_late_6 : decode cX12_late 6 = .ok (.aload_n 0, 1) := by decide +kernel
theorem dX12_late_7 : decode cX12_late 7 = .ok (.iload_n 1, 1) := by decide +kernel
theorem dX12_late_8 : decode cX12_late 8 = .ok (.invokevirtual 272, 3) := by decide +kernel
theorem dX12_late_11 : decode cX12_late 11 = .ok (.ifCond .ne 7, 3) := by decide +kernel
theorem dX12_late_14 : decode cX12_late 14 = .ok (.iconst 1, 1) := by decide +kernel
theorem dX12_late_15 : decode cX12_late 15 = .ok (.goto 4, 3) := by decide +kernel
theorem dX12_late_19 : decode cX12_late 19 = .ok (.iconst 1, 1) := by decide +kernel
theorem dX12_late_20 : decode cX12_late 20 = .ok (.iconst 0, 1) := by decide +kernel
theorem dX12_late_21 : decode cX12_late 21 = .ok (.invokevirtual 114, 3) := by decide +kernel
theorem dX12_late_24 : decode cX12_late 24 = .ok (.ifCond .eq 5, 3) := by decide +kernel
theorem dX12_late_27 : decode cX12_late 27 = .ok (.iconst 0, 1) := by decide +kernel
theorem dX12_late_28 : decode cX12_late 28 = .ok (.ireturn, 1) := by decide +kernel
theorem dX12_latest_0 : decode cX12_latest 0 = .ok (.aload_n 0, 1) := by decide +kernel
theorem dX12_latest_1 : decode cX12_latest 1 = .ok (.iconst 0, 1) := by decide +kernel
theorem dX12_latest_2 : decode cX12_latest 2 = .ok (.putfield 56, 3) := by decide +kernel
theorem dX12_latest_5 : decode cX12_latest 5 = .ok (.aload_n 0, 1) := by decide +kernel
theorem dX12_latest_6 : decode cX12_latest 6 = .ok (.aload_n 0, 1) := by decide +kernel
theorem dX12_latest_7 : decode cX12_latest 7 = .ok (.iload_n 1, 1) := by decide +kernel
theorem dX12_latest_8 : decode cX12_latest 8 = .ok (.invokevirtual 291, 3) := by decide +kernel
theorem dX12_latest_11 : decode cX12_latest 11 = .ok (.ifCond .ne 7, 3) := by decide +kernel
theorem dX12_latest_14 : decode cX12_latest 14 = .ok (.iconst 1, 1) := by decide +kernel
theorem dX12_latest_15 : decode cX12_latest 15 = .ok (.goto 4, 3) := by decide +kernel
theorem dX12_latest_19 : decode cX12_latest 19 = .ok (.iconst 1, 1) := by decide +kernel
theorem dX12_latest_20 : decode cX12_latest 20 = .ok (.iconst 1, 1) := by decide +kernel
theorem dX12_latest_21 : decode cX12_latest 21 = .ok (.invokevirtual 114, 3) := by decide +kernel
theorem dX12_latest_24 : decode cX12_latest 24 = .ok (.ifCond .eq 5, 3) := by decide +kernel
theorem dX12_latest_27 : decode cX12_latest 27 = .ok (.iconst 0, 1) := by decide +kernel
theorem dX12_latest_28 : decode cX12_latest 28 = .ok (.ireturn, 1) := by decide +kernel
theorem dX12_laysRoutes_0 : decode cX12_laysRoutes 0 = .ok (.aload_n 0, 1) := by decide +kernel
theorem dX12_laysRoutes_1 : decode cX12_laysRoutes 1 = .ok (.getfield 140, 3) := by decide +kernel
theorem dX12_laysRoutes_4 : decode cX12_laysRoutes 4 = .ok (.ifCond .ne 10, 3) := by decide +kernel
theorem dX12_laysRoutes_7 : decode cX12_laysRoutes 7 = .ok (.aload_n 0, 1) := by decide +kernel
theorem dX12_laysRoutes_8 : decode cX12_laysRoutes 8 = .ok (.getfield 249, 3) := by decide +kernel
theorem dX12_laysRoutes_11 : decode cX12_laysRoutes 11 = .ok (.ifCond .ne 4, 3) := by decide +kernel
theorem dX12_laysRoutes_14 : decode cX12_laysRoutes 14 = .ok (.return_, 1) := by decide +kernel
theorem dX12_leaves_0 : decode cX12_leaves 0 = .ok (.aload_n 0, 1) := by decide +kernel
theorem dX12_leaves_1 : decode cX12_leaves 1 = .ok (.iconst 0, 1) := by decide +kernel
theorem dX12_leaves_2 : decode cX12_leaves 2 = .ok (.putfield 56, 3) := by decide +kernel
theorem dX12_leaves_5 : decode cX12_leaves 5 = .ok (.aload_n 0, 1) := by decide +kernel
theorem dX12_leaves_6 : decode cX12_leaves 6 = .ok (.aload_n 0, 1) := by decide +kernel
theorem dX12_leaves_7 : decode cX12_leaves 7 = .ok (.iload_n 1, 1) := by decide +kernel
theorem dX12_leaves_8 : decode cX12_leaves 8 = .ok (.invokevirtual 144, 3) := by decide +kernel
theorem dX12_leaves_11 : decode cX12_leaves 11 = .ok (.ifCond .ne 7, 3) := by decide +kernel
theorem dX12_leaves_14 : decode cX12_leaves 14 = .ok (.iconst 1, 1) := by decide +kernel
theorem dX12_leaves_15 : decode cX12_leaves 15 = .ok (.goto 4, 3) := by decide +kernel
theorem dX12_leaves_19 : decode cX12_leaves 19 = .ok (.iconst 1, 1) := by decide +kernel
theorem dX12_leaves_20 : decode cX12_leaves 20 = .ok (.iconst 0, 1) := by decide +kernel
theorem dX12_leaves_21 : decode cX12_leaves 21 = .ok (.invokevirtual 114, 3) := by decide +kernel
theorem dX12_leaves_24 : decode cX12_leaves 24 = .ok (.ifCond .ne 37, 3) := by decide +kernel
theorem dX12_leaves_61 : decode cX12_leaves 61 = .ok (.iconst 0, 1) := by decide +kernel
theorem dX12_leaves_62 : decode cX12_leaves 62 = .ok (.ireturn, 1) := by decide +kernel
theorem dX12_leg_0 : decode cX12_leg 0 = .ok (.aload_n 0, 1) := by decide +kernel
theorem dX12_leg_1 : decode cX12_leg 1 = .ok (.iconst 0, 1) := by decide +kernel
theorem dX12_leg_2 : decode cX12_leg 2 = .ok (.putfield 56, 3) := by decide +kernel
theorem dX12_leg_5 : decode cX12_leg 5 = .ok (.aload_n 0, 1) := by decide +kernel
theorem dX12_leg_6 : decode cX12_leg 6 = .ok (.iload_n 1, 1) := by decide +kernel
theorem dX12_leg_7 : decode cX12_leg 7 = .ok (.invokevirtual 272, 3) := by decide +kernel
theorem dX12_leg_10 : decode cX12_leg 10 = .ok (.ifCond .eq 25, 3) := by decide +kernel
theorem dX12_leg_35 : decode cX12_leg 35 = .ok (.iconst 0, 1) := by decide +kernel
theorem dX12_leg_36 : decode cX12_leg 36 = .ok (.istore 4, 2) := by decide +kernel
theorem dX12_leg_38 : decode cX12_leg 38 = .ok (.aload_n 0, 1) := by decide +kernel
theorem dX12_leg_39 : decode cX12_leg 39 = .ok (.iload 4, 2) := by decide +kernel
theorem dX12_leg_41 : decode cX12_leg 41 = .ok (.ifCond .ne 7, 3) := by decide +kernel
theorem dX12_leg_44 : decode cX12_leg 44 = .ok (.iconst 1, 1) := by decide +kernel
theorem dX12_leg_45 : decode cX12_leg 45 = .ok (.goto 4, 3) := by decide +kernel
theorem dX12_leg_49 : decode cX12_leg 49 = .ok (.iconst 1, 1) := by decide +kernel
theorem dX12_leg_50 : decode cX12_leg 50 = .ok (.iconst 0, 1) := by decide +kernel
theorem dX12_leg_51 : decode cX12_leg 51 = .ok (.invokevirtual 114, 3) := by decide +kernel
theorem dX12_leg_54 : decode cX12_leg 54 = .ok (.ifCond .ne 27, 3) := by decide +kernel
theorem dX12_leg_81 : decode cX12_leg 81 = .ok (.iconst 0, 1) := by decide +kernel
theorem dX12_leg_82 : decode cX12_leg 82 = .ok (.ireturn, 1) := by decide +kernel
theorem dX12_limits_0 : decode cX12_limits 0 = .ok (.aload_n 0, 1) := by decide +kernel
theorem dX12_limits_1 : decode cX12_limits 1 = .ok (.iconst 0, 1) := by decide +kernel
theorem dX12_limits_2 : decode cX12_limits 2 = .ok (.putfield 56, 3) := by decide +kernel
theorem dX12_limits_5 : decode cX12_limits 5 = .ok (.aload_n 0, 1) := by decide +kernel
theorem dX12_limits_6 : decode cX12_limits 6 = .ok (.aload_n 0, 1) := by decide +kernel
theorem dX12_limits_7 : decode cX12_limits 7 = .ok (.iload_n 1, 1) := by decide +kernel
theorem dX12_limits_8 : decode cX12_limits 8 = .ok (.invokevirtual 144, 3) := by decide +kernel
theorem dX12_limits_11 : decode cX12_limits 11 = .ok (.ifCond .ne 7, 3) := by decide +kernel
theorem dX12_limits_14 : decode cX12_limits 14 = .ok (.iconst 1, 1) := by decide +kernel
theorem dX12_limits_15 : decode cX12_limits 15 = .ok (.goto 4, 3) := by decide +kernel
theorem dX12_limits_19 : decode cX12_limits 19 = .ok (.iconst 1, 1) := by decide +kernel
theorem dX12_limits_20 : decode cX12_limits 20 = .ok (.iconst 0, 1) := by decide +kernel
theorem dX12_limits_21 : decode cX12_limits 21 = .ok (.invokevirtual 114, 3) := by decide +kernel
theorem dX12_limits_24 : decode cX12_limits 24 = .ok (.ifCond .ne 37, 3) := by decide +kernel
theorem dX12_limits_61 : decode cX12_limits 61 = .ok (.iconst 0, 1) := by decide +kernel
theorem dX12_limits_62 : decode cX12_limits 62 = .ok (.ireturn, 1) := by decide +kernel
theorem dX12_line_0 : decode cX12_line 0 = .ok (.aload_n 0, 1) := by decide +kernel
theorem dX12_line_1 : decode cX12_line 1 = .ok (.iconst 0, 1) := by decide +kernel
theorem dX12_line_2 : decode cX12_line 2 = .ok (.putfield 56, 3) := by decide +kernel
theorem dX12_line_5 : decode cX12_line 5 = .ok (.aload_n 0, 1) := by decide +kernel
theorem dX12_line_6 : decode cX12_line 6 = .ok (.aload_n 0, 1) := by decide +kernel
theorem dX12_line_7 : decode cX12_line 7 = .ok (.iload_n 1, 1) := by decide +kernel
theorem dX12_line_8 : decode cX12_line 8 = .ok (.invokevirtual 144, 3) := by decide +kernel
theorem dX12_line_11 : decode cX12_line 11 = .ok (.ifCond .eq 27, 3) := by decide +kernel
theorem dX12_line_38 : decode cX12_line 38 = .ok (.iconst 1, 1) := by decide +kernel
theorem dX12_line_39 : decode cX12_line 39 = .ok (.goto 4, 3) := by decide +kernel
theorem dX12_line_43 : decode cX12_line 43 = .ok (.iconst 1, 1) := by decide +kernel
theorem dX12_line_44 : decode cX12_line 44 = .ok (.iconst 0, 1) := by decide +kernel
theorem dX12_line_45 : decode cX12_line 45 = .ok (.invokevirtual 114, 3) := by decide +kernel
theorem dX12_line_48 : decode cX12_line 48 = .ok (.ifCond .ne 26, 3) := by decide +kernel
theorem dX12_line_74 : decode cX12_line 74 = .ok (.iconst 0, 1) := by decide +kernel
theorem dX12_line_75 : decode cX12_line 75 = .ok (.ireturn, 1) := by decide +kernel
theorem dX12_lowest_0 : decode cX12_lowest 0 = .ok (.aload_n 0, 1) := by decide +kernel
theorem dX12_lowest_1 : decode cX12_lowest 1 = .ok (.iconst 0, 1) := by decide +kernel
theorem dX12_lowest_2 : decode cX12_lowest 2 = .ok (.putfield 56, 3) := by decide +kernel
theorem dX12_lowest_5 : decode cX12_lowest 5 = .ok (.aload_n 0, 1) := by decide +kernel
theorem dX12_lowest_6 : decode cX12_lowest 6 = .ok (.aload_n 0, 1) := by decide +kernel
theorem dX12_lowest_7 : decode cX12_lowest 7 = .ok (.iload_n 1, 1) := by decide +kernel
theorem dX12_lowest_8 : decode cX12_lowest 8 = .ok (.invokevirtual 144, 3) := by decide +kernel
theorem dX12_lowest_11 : decode cX12_lowest 11 = .ok (.ifCond .ne 7, 3) := by decide +kernel
theorem dX12_lowest_14 : decode cX12_lowest 14 = .ok (.iconst 1, 1) := by decide +kernel
theorem dX12_lowest_15 : decode cX12_lowest 15 = .ok (.goto 4, 3) := by decide +kernel
theorem dX12_lowest_19 : decode cX12_lowest 19 = .ok (.iconst 1, 1) := by decide +kernel
theorem dX12_lowest_20 : decode cX12_lowest 20 = .ok (.iconst 0, 1) := by decide +kernel
theorem dX12_lowest_21 : decode cX12_lowest 21 = .ok (.invokevirtual 114, 3) := by decide +kernel
theorem dX12_lowest_24 : decode cX12_lowest 24 = .ok (.ifCond .ne 26, 3) := by decide +kernel
theorem dX12_lowest_50 : decode cX12_lowest 50 = .ok (.iconst 0, 1) := by decide +kernel
theorem dX12_lowest_51 : decode cX12_lowest 51 = .ok (.ireturn, 1) := by decide +kernel
theorem dX12_most_0 : decode cX12_most 0 = .ok (.aload_n 0, 1) := by decide +kernel
theorem dX12_most_1 : decode cX12_most 1 = .ok (.iconst 0, 1) := by decide +kernel
theorem dX12_most_2 : decode cX12_most 2 = .ok (.putfield 56, 3) := by decide +kernel
theorem dX12_most_5 : decode cX12_most 5 = .ok (.aload_n 0, 1) := by decide +kernel
theorem dX12_most_6 : decode cX12_most 6 = .ok (.aload_n 0, 1) := by decide +kernel
theorem dX12_most_7 : decode cX12_most 7 = .ok (.iload_n 1, 1) := by decide +kernel
theorem dX12_most_8 : decode cX12_most 8 = .ok (.invokevirtual 291, 3) := by decide +kernel
theorem dX12_most_11 : decode cX12_most 11 = .ok (.ifCond .ne 7, 3) := by decide +kernel
theorem dX12_most_14 : decode cX12_most 14 = .ok (.iconst 1, 1) := by decide +kernel
theorem dX12_most_15 : decode cX12_most 15 = .ok (.goto 4, 3) := by decide +kernel
theorem dX12_most_19 : decode cX12_most 19 = .ok (.iconst 1, 1) := by decide +kernel
theorem dX12_most_20 : decode cX12_most 20 = .ok (.iconst 1, 1) := by decide +kernel
theorem dX12_most_21 : decode cX12_most 21 = .ok (.invokevirtual 114, 3) := by decide +kernel
theorem dX12_most_24 : decode cX12_most 24 = .ok (.ifCond .eq 5, 3) := by decide +kernel
theorem dX12_most_27 : decode cX12_most 27 = .ok (.iconst 0, 1) := by decide +kernel
theorem dX12_most_28 : decode cX12_most 28 = .ok (.ireturn, 1) := by decide +kernel
theorem dX12_needs_0 : decode cX12_needs 0 = .ok (.aload_n 0, 1) := by decide +kernel
theorem dX12_needs_1 : decode cX12_needs 1 = .ok (.iconst 0, 1) := by decide +kernel
theorem dX12_needs_2 : decode cX12_needs 2 = .ok (.putfield 56, 3) := by decide +kernel
theorem dX12_needs_5 : decode cX12_needs 5 = .ok (.aload_n 0, 1) := by decide +kernel
theorem dX12_needs_6 : decode cX12_needs 6 = .ok (.aload_n 0, 1) := by decide +kernel
theorem dX12_needs_7 : decode cX12_needs 7 = .ok (.iload_n 1, 1) := by decide +kernel
theorem dX12_needs_8 : decode cX12_needs 8 = .ok (.invokevirtual 144, 3) := by decide +kernel
theorem dX12_needs_11 : decode cX12_needs 11 = .ok (.ifCond .ne 7, 3) := by decide +kernel
theorem dX12_needs_14 : decode cX12_needs 14 = .ok (.iconst 1, 1) := by decide +kernel
theorem dX12_needs_15 : decode cX12_needs 15 = .ok (.goto 4, 3) := by decide +kernel
theorem dX12_needs_19 : decode cX12_needs 19 = .ok (.iconst 1, 1) := by decide +kernel
theorem dX12_needs_20 : decode cX12_needs 20 = .ok (.iconst 0, 1) := by decide +kernel
theorem dX12_needs_21 : decode cX12_needs 21 = .ok (.invokevirtual 114, 3) := by decide +kernel
theorem dX12_needs_24 : decode cX12_needs 24 = .ok (.ifCond .ne 25, 3) := by decide +kernel
theorem dX12_needs_49 : decode cX12_needs 49 = .ok (.iconst 0, 1) := by decide +kernel
theorem dX12_needs_50 : decode cX12_needs 50 = .ok (.ireturn, 1) := by decide +kernel
theorem dX12_next_0 : decode cX12_next 0 = .ok (.aload_n 0, 1) := by decide +kernel
theorem dX12_next_1 : decode cX12_next 1 = .ok (.iconst 0, 1) := by decide +kernel
theorem dX12_next_2 : decode cX12_next 2 = .ok (.putfield 56, 3) := by decide +kernel
theorem dX12_next_5 : decode cX12_next 5 = .ok (.aload_n 0, 1) := by decide +kernel
theorem dX12_next_6 : decode cX12_next 6 = .ok (.aload_n 0, 1) := by decide +kernel
theorem dX12_next_7 : decode cX12_next 7 = .ok (.iload_n 1, 1) := by decide +kernel
theorem dX12_next_8 : decode cX12_next 8 = .ok (.invokevirtual 127, 3) := by decide +kernel
theorem dX12_next_11 : decode cX12_next 11 = .ok (.ifCond .ne 7, 3) := by decide +kernel
theorem dX12_next_14 : decode cX12_next 14 = .ok (.iconst 1, 1) := by decide +kernel
theorem dX12_next_15 : decode cX12_next 15 = .ok (.goto 4, 3) := by decide +kernel
theorem dX12_next_19 : decode cX12_next 19 = .ok (.iconst 1, 1) := by decide +kernel
theorem dX12_next_20 : decode cX12_next 20 = .ok (.iconst 0, 1) := by decide +kernel
theorem dX12_next_21 : decode cX12_next 21 = .ok (.invokevirtual 114, 3) := by decide +kernel
theorem dX12_next_24 : decode cX12_next 24 = .ok (.ifCond .ne 27, 3) := by decide +kernel
theorem dX12_next_51 : decode cX12_next 51 = .ok (.iconst 0, 1) := by decide +kernel
theorem dX12_next_52 : decode cX12_next 52 = .ok (.ireturn, 1) := by decide +kernel
theorem dX12_open_0 : decode cX12_open 0 = .ok (.aload_n 0, 1) := by decide +kernel
theorem dX12_open_1 : decode cX12_open 1 = .ok (.iconst 0, 1) := by decide +kernel
theorem dX12_open_2 : decode cX12_open 2 = .ok (.putfield 56, 3) := by decide +kernel
theorem dX12_open_5 : decode cX12_open 5 = .ok (.aload_n 0, 1) := by decide +kernel
theorem dX12_open_6 : decode cX12_open 6 = .ok (.aload_n 0, 1) := by decide +kernel
theorem dX12_open_7 : decode cX12_open 7 = .ok (.iload_n 1, 1) := by decide +kernel
theorem dX12_open_8 : decode cX12_open 8 = .ok (.invokevirtual 127, 3) := by decide +kernel
theorem dX12_open_11 : decode cX12_open 11 = .ok (.ifCond .ne 7, 3) := by decide +kernel
theorem dX12_open_14 : decode cX12_open 14 = .ok (.iconst 1, 1) := by decide +kernel
theorem dX12_open_15 : decode cX12_open 15 = .ok (.goto 4, 3) := by decide +kernel
theorem dX12_open_19 : decode cX12_open 19 = .ok (.iconst 1, 1) := by decide +kernel
theorem dX12_open_20 : decode cX12_open 20 = .ok (.iconst 0, 1) := by decide +kernel
theorem dX12_open_21 : decode cX12_open 21 = .ok (.invokevirtual 114, 3) := by decide +kernel
theorem dX12_open_24 : decode cX12_open 24 = .ok (.ifCond .ne 27, 3) := by decide +kernel
theorem dX12_open_51 : decode cX12_open 51 = .ok (.iconst 0, 1) := by decide +kernel
theorem dX12_open_52 : decode cX12_open 52 = .ok (.ireturn, 1) := by decide +kernel
theorem dX12_pay_0 : decode cX12_pay 0 = .ok (.aload_n 0, 1) := by decide +kernel
theorem dX12_pay_1 : decode cX12_pay 1 = .ok (.iconst 0, 1) := by decide +kernel
theorem dX12_pay_2 : decode cX12_pay 2 = .ok (.putfield 56, 3) := by decide +kernel
theorem dX12_pay_5 : decode cX12_pay 5 = .ok (.aload_n 0, 1) := by decide +kernel
theorem dX12_pay_6 : decode cX12_pay 6 = .ok (.aload_n 0, 1) := by decide +kernel
theorem dX12_pay_7 : decode cX12_pay 7 = .ok (.iload_n 1, 1) := by decide +kernel
theorem dX12_pay_8 : decode cX12_pay 8 = .ok (.invokevirtual 258, 3) := by decide +kernel
theorem dX12_pay_11 : decode cX12_pay 11 = .ok (.ifCond .ne 7, 3) := by decide +kernel
theorem dX12_pay_14 : decode cX12_pay 14 = .ok (.iconst 1, 1) := by decide +kernel
theorem dX12_pay_15 : decode cX12_pay 15 = .ok (.goto 4, 3) := by decide +kernel
theorem dX12_pay_19 : decode cX12_pay 19 = .ok (.iconst 1, 1) := by decide +kernel
theorem dX12_pay_20 : decode cX12_pay 20 = .ok (.iconst 0, 1) := by decide +kernel
theorem dX12_pay_21 : decode cX12_pay 21 = .ok (.invokevirtual 114, 3) := by decide +kernel
theorem dX12_pay_24 : decode cX12_pay 24 = .ok (.ifCond .eq 5, 3) := by decide +kernel
theorem dX12_pay_27 : decode cX12_pay 27 = .ok (.iconst 0, 1) := by decide +kernel
theorem dX12_pay_28 : decode cX12_pay 28 = .ok (.ireturn, 1) := by decide +kernel
theorem dX12_payment_0 : decode cX12_payment 0 = .ok (.aload_n 0, 1) := by decide +kernel
theorem dX12_payment_1 : decode cX12_payment 1 = .ok (.iconst 0, 1) := by decide +kernel
theorem dX12_payment_2 : decode cX12_payment 2 = .ok (.putfield 56, 3) := by decide +kernel
theorem dX12_payment_5 : decode cX12_payment 5 = .ok (.aload_n 0, 1) := by decide +kernel
theorem dX12_payment_6 : decode cX12_payment 6 = .ok (.aload_n 0, 1) := by decide +kernel
theorem dX12_payment_7 : decode cX12_payment 7 = .ok (.iload_n 1, 1) := by decide +kernel
theorem dX12_payment_8 : decode cX12_payment 8 = .ok (.invokevirtual 272, 3) := by decide +kernel
theorem dX12_payment_11 : decode cX12_payment 11 = .ok (.ifCond .ne 7, 3) := by decide +kernel
theorem dX12_payment_14 : decode cX12_payment 14 = .ok (.iconst 1, 1) := by decide +kernel
theorem dX12_payment_15 : decode cX12_payment 15 = .ok (.goto 4, 3) := by decide +kernel
theorem dX12_payment_19 : decode cX12_payment 19 = .ok (.iconst 1, 1) := by decide +kernel
theorem dX12_payment_20 : decode cX12_payment 20 = .ok (.iconst 0, 1) := by decide +kernel
theorem dX12_payment_21 : decode cX12_payment 21 = .ok (.invokevirtual 114, 3) := by decide +kernel
theorem dX12_payment_24 : decode cX12_payment 24 = .ok (.ifCond .ne 27, 3) := by decide +kernel
theorem dX12_payment_51 : decode cX12_payment 51 = .ok (.iconst 0, 1) := by decide +kernel
theorem dX12_payment_52 : decode cX12_payment 52 = .ok (.ireturn, 1) := by decide +kernel
theorem dX12_place_0 : decode cX12_place 0 = .ok (.aload_n 0, 1) := by decide +kernel
theorem dX12_place_1 : decode cX12_place 1 = .ok (.iconst 0, 1) := by decide +kernel
theorem dX12_place_2 : decode cX12_place 2 = .ok (.putfield 56, 3) := by decide +kernel
theorem dX12_place_5 : decode cX12_place 5 = .ok (.aload_n 0, 1) := by decide +kernel
theorem dX12_place_6 : decode cX12_place 6 = .ok (.iload_n 1, 1) := by decide +kernel
theorem dX12_place_7 : decode cX12_place 7 = .ok (.sipush (-720), 3) := by decide +kernel
theorem dX12_place_10 : decode cX12_place 10 = .ok (.sipush 840, 3) := by decide +kernel
theorem dX12_place_13 : decode cX12_place 13 = .ok (.invokestatic 74, 3) := by decide +kernel
theorem dX12_place_16 : decode cX12_place 16 = .ok (.ifCond .eq 38, 3) := by decide +kernel
theorem dX12_place_19 : decode cX12_place 19 = .ok (.iload_n 2, 1) := by decide +kernel
theorem dX12_place_20 : decode cX12_place 20 = .ok (.iconst 0, 1) := by decide +kernel
theorem dX12_place_21 : decode cX12_place 21 = .ok (.bipush 126, 2) := by decide +kernel
theorem dX12_place_23 : decode cX12_place 23 = .ok (.invokestatic 74, 3) := by decide +kernel
theorem dX12_place_26 : decode cX12_place 26 = .ok (.ifCond .eq 28, 3) := by decide +kernel
theorem dX12_place_29 : decode cX12_place 29 = .ok (.iload_n 3, 1) := by decide +kernel
theorem dX12_place_30 : decode cX12_place 30 = .ok (.iconst 0, 1) := by decide +kernel
theorem dX12_place_31 : decode cX12_place 31 = .ok (.sipush 1438, 3) := by decide +kernel
theorem dX12_place_34 : decode cX12_place 34 = .ok (.invokestatic 74, 3) := by decide +kernel
theorem dX12_place_37 : decode cX12_place 37 = .ok (.ifCond .eq 17, 3) := by decide +kernel
theorem dX12_place_40 : decode cX12_place 40 = .ok (.iload 4, 2) := by decide +kernel
theorem dX12_place_42 : decode cX12_place 42 = .ok (.iload_n 3, 1) := by decide +kernel
theorem dX12_place_43 : decode cX12_place 43 = .ok (.iconst 1, 1) := by decide +kernel
theorem dX12_place_44 : decode cX12_place 44 = .ok (.iadd, 1) := by decide +kernel
theorem dX12_place_45 : decode cX12_place 45 = .ok (.sipush 1439, 3) := by decide +kernel
theorem dX12_place_48 : decode cX12_place 48 = .ok (.invokestatic 74, 3) := by decide +kernel
theorem dX12_place_51 : decode cX12_place 51 = .ok (.ifCond .ne 7, 3) := by decide +kernel
theorem dX12_place_54 : decode cX12_place 54 = .ok (.iconst 1, 1) := by decide +kernel
theorem dX12_place_55 : decode cX12_place 55 = .ok (.goto 4, 3) := by decide +kernel
theorem dX12_place_58 : decode cX12_place 58 = .ok (.iconst 0, 1) := by decide +kernel
theorem dX12_place_59 : decode cX12_place 59 = .ok (.iconst 1, 1) := by decide +kernel
theorem dX12_place_60 : decode cX12_place 60 = .ok (.iconst 1, 1) := by decide +kernel
theorem dX12_place_61 : decode cX12_place 61 = .ok (.invokevirtual 114, 3) := by decide +kernel
theorem dX12_place_64 : decode cX12_place 64 = .ok (.ifCond .eq 5, 3) := by decide +kernel
theorem dX12_place_67 : decode cX12_place 67 = .ok (.iconst 0, 1) := by decide +kernel
theorem dX12_place_68 : decode cX12_place 68 = .ok (.ireturn, 1) := by decide +kernel
theorem dX12_place_69 : decode cX12_place 69 = .ok (.aload_n 0, 1) := by decide +kernel
theorem dX12_place_70 : decode cX12_place 70 = .ok (.getfield 118, 3) := by decide +kernel
theorem dX12_place_73 : decode cX12_place 73 = .ok (.bipush 6, 2) := by decide +kernel
theorem dX12_place_75 : decode cX12_place 75 = .ok (.if_icmp .ne 5, 3) := by decide +kernel
theorem dX12_place_80 : decode cX12_place 80 = .ok (.aload_n 0, 1) := by decide +kernel
theorem dX12_place_81 : decode cX12_place 81 = .ok (.getfield 15, 3) := by decide +kernel
theorem dX12_place_84 : decode cX12_place 84 = .ok (.aload_n 0, 1) := by decide +kernel
theorem dX12_place_85 : decode cX12_place 85 = .ok (.getfield 118, 3) := by decide +kernel
theorem dX12_place_88 : decode cX12_place 88 = .ok (.aaload, 1) := by decide +kernel
theorem dX12_place_89 : decode cX12_place 89 = .ok (.astore 5, 2) := by decide +kernel
theorem dX12_place_91 : decode cX12_place 91 = .ok (.aload 5, 2) := by decide +kernel
theorem dX12_place_93 : decode cX12_place 93 = .ok (.iconst 0, 1) := by decide +kernel
theorem dX12_place_94 : decode cX12_place 94 = .ok (.iload_n 1, 1) := by decide +kernel
theorem dX12_place_95 : decode cX12_place 95 = .ok (.iastore, 1) := by decide +kernel
theorem dX12_place_96 : decode cX12_place 96 = .ok (.aload 5, 2) := by decide +kernel
theorem dX12_place_98 : decode cX12_place 98 = .ok (.iconst 1, 1) := by decide +kernel
theorem dX12_place_99 : decode cX12_place 99 = .ok (.iload_n 2, 1) := by decide +kernel
theorem dX12_place_100 : decode cX12_place 100 = .ok (.iastore, 1) := by decide +kernel
theorem dX12_place_101 : decode cX12_place 101 = .ok (.aload 5, 2) := by decide +kernel
theorem dX12_place_103 : decode cX12_place 103 = .ok (.iconst 2, 1) := by decide +kernel
theorem dX12_place_104 : decode cX12_place 104 = .ok (.iload_n 3, 1) := by decide +kernel
theorem dX12_place_105 : decode cX12_place 105 = .ok (.iastore, 1) := by decide +kernel
theorem dX12_place_106 : decode cX12_place 106 = .ok (.aload 5, 2) := by decide +kernel
theorem dX12_place_108 : decode cX12_place 108 = .ok (.iconst 3, 1) := by decide +kernel
theorem dX12_place_109 : decode cX12_place 109 = .ok (.iload 4, 2) := by decide +kernel
theorem dX12_place_111 : decode cX12_place 111 = .ok (.iastore, 1) := by decide +kernel
theorem dX12_place_112 : decode cX12_place 112 = .ok (.aload_n 0, 1) := by decide +kernel
theorem dX12_place_113 : decode cX12_place 113 = .ok (.dup, 1) := by decide +kernel
theorem dX12_place_114 : decode cX12_place 114 = .ok (.getfield 118, 3) := by decide +kernel
theorem dX12_place_117 : decode cX12_place 117 = .ok (.iconst 1, 1) := by decide +kernel
theorem dX12_place_118 : decode cX12_place 118 = .ok (.iadd, 1) := by decide +kernel
theorem dX12_place_119 : decode cX12_place 119 = .ok (.putfield 118, 3) := by decide +kernel
theorem dX12_place_122 : decode cX12_place 122 = .ok (.aload_n 0, 1) := by decide +kernel
theorem dX12_place_123 : decode cX12_place 123 = .ok (.getfield 118, 3) := by decide +kernel
theorem dX12_place_126 : decode cX12_place 126 = .ok (.iconst 1, 1) := by decide +kernel
theorem dX12_place_127 : decode cX12_place 127 = .ok (.isub, 1) := by decide +kernel
theorem dX12_place_128 : decode cX12_place 128 = .ok (.ireturn, 1) := by decide +kernel
theorem dX12_placeOf_0 : decode cX12_placeOf 0 = .ok (.aload_n 0, 1) := by decide +kernel
theorem dX12_placeOf_1 : decode cX12_placeOf 1 = .ok (.iconst 0, 1) := by decide +kernel
theorem dX12_placeOf_2 : decode cX12_placeOf 2 = .ok (.putfield 56, 3) := by decide +kernel
theorem dX12_placeOf_5 : decode cX12_placeOf 5 = .ok (.aload_n 0, 1) := by decide +kernel
theorem dX12_placeOf_6 : decode cX12_placeOf 6 = .ok (.aload_n 0, 1) := by decide +kernel
theorem dX12_placeOf_7 : decode cX12_placeOf 7 = .ok (.iload_n 1, 1) := by decide +kernel
theorem dX12_placeOf_8 : decode cX12_placeOf 8 = .ok (.invokevirtual 127, 3) := by decide +kernel
theorem dX12_placeOf_11 : decode cX12_placeOf 11 = .ok (.ifCond .ne 7, 3) := by decide +kernel
theorem dX12_placeOf_14 : decode cX12_placeOf 14 = .ok (.iconst 1, 1) := by decide +kernel
theorem dX12_placeOf_15 : decode cX12_placeOf 15 = .ok (.goto 4, 3) := by decide +kernel
theorem dX12_placeOf_19 : decode cX12_placeOf 19 = .ok (.iconst 1, 1) := by decide +kernel
theorem dX12_placeOf_20 : decode cX12_placeOf 20 = .ok (.iconst 0, 1) := by decide +kernel
theorem dX12_placeOf_21 : decode cX12_placeOf 21 = .ok (.invokevirtual 114, 3) := by decide +kernel
theorem dX12_placeOf_24 : decode cX12_placeOf 24 = .ok (.ifCond .ne 27, 3) := by decide +kernel
theorem dX12_placeOf_51 : decode cX12_placeOf 51 = .ok (.iconst 0, 1) := by decide +kernel
theorem dX12_placeOf_52 : decode cX12_placeOf 52 = .ok (.ireturn, 1) := by decide +kernel
theorem dX12_reach_0 : decode cX12_reach 0 = .ok (.aload_n 0, 1) := by decide +kernel
theorem dX12_reach_1 : decode cX12_reach 1 = .ok (.iconst 0, 1) := by decide +kernel
theorem dX12_reach_2 : decode cX12_reach 2 = .ok (.putfield 56, 3) := by decide +kernel
theorem dX12_reach_5 : decode cX12_reach 5 = .ok (.aload_n 0, 1) := by decide +kernel
theorem dX12_reach_6 : decode cX12_reach 6 = .ok (.aload_n 0, 1) := by decide +kernel
theorem dX12_reach_7 : decode cX12_reach 7 = .ok (.iload_n 1, 1) := by decide +kernel
theorem dX12_reach_8 : decode cX12_reach 8 = .ok (.invokevirtual 131, 3) := by decide +kernel
theorem dX12_reach_11 : decode cX12_reach 11 = .ok (.ifCond .ne 7, 3) := by decide +kernel
theorem dX12_reach_14 : decode cX12_reach 14 = .ok (.iconst 1, 1) := by decide +kernel
theorem dX12_reach_15 : decode cX12_reach 15 = .ok (.goto 4, 3) := by decide +kernel
theorem dX12_reach_19 : decode cX12_reach 19 = .ok (.iconst 1, 1) := by decide +kernel
theorem dX12_reach_20 : decode cX12_reach 20 = .ok (.iconst 0, 1) := by decide +kernel
theorem dX12_reach_21 : decode cX12_reach 21 = .ok (.invokevirtual 114, 3) := by decide +kernel
theorem dX12_reach_24 : decode cX12_reach 24 = .ok (.ifCond .ne 37, 3) := by decide +kernel
theorem dX12_reach_61 : decode cX12_reach 61 = .ok (.iconst 0, 1) := by decide +kernel
theorem dX12_reach_62 : decode cX12_reach 62 = .ok (.ireturn, 1) := by decide +kernel
theorem dX12_refuse_0 : decode cX12_refuse 0 = .ok (.aload_n 0, 1) := by decide +kernel
theorem dX12_refuse_1 : decode cX12_refuse 1 = .ok (.iconst 0, 1) := by decide +kernel
theorem dX12_refuse_2 : decode cX12_refuse 2 = .ok (.putfield 56, 3) := by decide +kernel
theorem dX12_refuse_5 : decode cX12_refuse 5 = .ok (.aload_n 0, 1) := by decide +kernel
theorem dX12_refuse_6 : decode cX12_refuse 6 = .ok (.iload_n 1, 1) := by decide +kernel
theorem dX12_refuse_7 : decode cX12_refuse 7 = .ok (.iconst 0, 1) := by decide +kernel
theorem dX12_refuse_8 : decode cX12_refuse 8 = .ok (.aload_n 0, 1) := by decide +kernel
theorem dX12_refuse_9 : decode cX12_refuse 9 = .ok (.getfield 151, 3) := by decide +kernel
theorem dX12_refuse_12 : decode cX12_refuse 12 = .ok (.iconst 1, 1) := by decide +kernel
theorem dX12_refuse_13 : decode cX12_refuse 13 = .ok (.isub, 1) := by decide +kernel
theorem dX12_refuse_14 : decode cX12_refuse 14 = .ok (.invokestatic 74, 3) := by decide +kernel
theorem dX12_refuse_17 : decode cX12_refuse 17 = .ok (.ifCond .ne 7, 3) := by decide +kernel
theorem dX12_refuse_20 : decode cX12_refuse 20 = .ok (.iconst 1, 1) := by decide +kernel
theorem dX12_refuse_21 : decode cX12_refuse 21 = .ok (.goto 4, 3) := by decide +kernel
theorem dX12_refuse_25 : decode cX12_refuse 25 = .ok (.iconst 1, 1) := by decide +kernel
theorem dX12_refuse_26 : decode cX12_refuse 26 = .ok (.iconst 0, 1) := by decide +kernel
theorem dX12_refuse_27 : decode cX12_refuse 27 = .ok (.invokevirtual 114, 3) := by decide +kernel
theorem dX12_refuse_30 : decode cX12_refuse 30 = .ok (.ifCond .eq 5, 3) := by decide +kernel
theorem dX12_refuse_33 : decode cX12_refuse 33 = .ok (.iconst 0, 1) := by decide +kernel
theorem dX12_refuse_34 : decode cX12_refuse 34 = .ok (.ireturn, 1) := by decide +kernel
theorem dX12_reroute_0 : decode cX12_reroute 0 = .ok (.aload_n 0, 1) := by decide +kernel
theorem dX12_reroute_1 : decode cX12_reroute 1 = .ok (.iconst 0, 1) := by decide +kernel
theorem dX12_reroute_2 : decode cX12_reroute 2 = .ok (.putfield 56, 3) := by decide +kernel
theorem dX12_reroute_5 : decode cX12_reroute 5 = .ok (.aload_n 0, 1) := by decide +kernel
theorem dX12_reroute_6 : decode cX12_reroute 6 = .ok (.aload_n 0, 1) := by decide +kernel
theorem dX12_reroute_7 : decode cX12_reroute 7 = .ok (.iload_n 1, 1) := by decide +kernel
theorem dX12_reroute_8 : decode cX12_reroute 8 = .ok (.invokevirtual 272, 3) := by decide +kernel
theorem dX12_reroute_11 : decode cX12_reroute 11 = .ok (.ifCond .ne 7, 3) := by decide +kernel
theorem dX12_reroute_14 : decode cX12_reroute 14 = .ok (.iconst 1, 1) := by decide +kernel
theorem dX12_reroute_15 : decode cX12_reroute 15 = .ok (.goto 4, 3) := by decide +kernel
theorem dX12_reroute_19 : decode cX12_reroute 19 = .ok (.iconst 1, 1) := by decide +kernel
theorem dX12_reroute_20 : decode cX12_reroute 20 = .ok (.iconst 0, 1) := by decide +kernel
theorem dX12_reroute_21 : decode cX12_reroute 21 = .ok (.invokevirtual 114, 3) := by decide +kernel
theorem dX12_reroute_24 : decode cX12_reroute 24 = .ok (.ifCond .eq 5, 3) := by decide +kernel
theorem dX12_reroute_27 : decode cX12_reroute 27 = .ok (.iconst 0, 1) := by decide +kernel
theorem dX12_reroute_28 : decode cX12_reroute 28 = .ok (.ireturn, 1) := by decide +kernel
theorem dX12_route_0 : decode cX12_route 0 = .ok (.aload_n 0, 1) := by decide +kernel
theorem dX12_route_1 : decode cX12_route 1 = .ok (.iconst 0, 1) := by decide +kernel
theorem dX12_route_2 : decode cX12_route 2 = .ok (.putfield 56, 3) := by decide +kernel
theorem dX12_route_5 : decode cX12_route 5 = .ok (.aload_n 0, 1) := by decide +kernel
theorem dX12_route_6 : decode cX12_route 6 = .ok (.aload_n 0, 1) := by decide +kernel
theorem dX12_route_7 : decode cX12_route 7 = .ok (.iload_n 1, 1) := by decide +kernel
theorem dX12_route_8 : decode cX12_route 8 = .ok (.invokevirtual 258, 3) := by decide +kernel
theorem dX12_route_11 : decode cX12_route 11 = .ok (.ifCond .ne 7, 3) := by decide +kernel
theorem dX12_route_14 : decode cX12_route 14 = .ok (.iconst 1, 1) := by decide +kernel
theorem dX12_route_15 : decode cX12_route 15 = .ok (.goto 4, 3) := by decide +kernel
theorem dX12_route_19 : decode cX12_route 19 = .ok (.iconst 1, 1) := by decide +kernel
theorem dX12_route_20 : decode cX12_route 20 = .ok (.iconst 0, 1) := by decide +kernel
theorem dX12_route_21 : decode cX12_route 21 = .ok (.invokevirtual 114, 3) := by decide +kernel
theorem dX12_route_24 : decode cX12_route 24 = .ok (.ifCond .ne 26, 3) := by decide +kernel
theorem dX12_route_50 : decode cX12_route 50 = .ok (.iconst 0, 1) := by decide +kernel
theorem dX12_route_51 : decode cX12_route 51 = .ok (.ireturn, 1) := by decide +kernel
theorem dX12_shared_0 : decode cX12_shared 0 = .ok (.aload_n 0, 1) := by decide +kernel
theorem dX12_shared_1 : decode cX12_shared 1 = .ok (.iconst 0, 1) := by decide +kernel
theorem dX12_shared_2 : decode cX12_shared 2 = .ok (.putfield 56, 3) := by decide +kernel
theorem dX12_shared_5 : decode cX12_shared 5 = .ok (.aload_n 0, 1) := by decide +kernel
theorem dX12_shared_6 : decode cX12_shared 6 = .ok (.aload_n 0, 1) := by decide +kernel
theorem dX12_shared_7 : decode cX12_shared 7 = .ok (.iload_n 1, 1) := by decide +kernel
theorem dX12_shared_8 : decode cX12_shared 8 = .ok (.invokevirtual 272, 3) := by decide +kernel
theorem dX12_shared_11 : decode cX12_shared 11 = .ok (.ifCond .eq 11, 3) := by decide +kernel
theorem dX12_shared_22 : decode cX12_shared 22 = .ok (.iconst 1, 1) := by decide +kernel
theorem dX12_shared_23 : decode cX12_shared 23 = .ok (.goto 4, 3) := by decide +kernel
theorem dX12_shared_27 : decode cX12_shared 27 = .ok (.iconst 1, 1) := by decide +kernel
theorem dX12_shared_28 : decode cX12_shared 28 = .ok (.iconst 0, 1) := by decide +kernel
theorem dX12_shared_29 : decode cX12_shared 29 = .ok (.invokevirtual 114, 3) := by decide +kernel
theorem dX12_shared_32 : decode cX12_shared 32 = .ok (.ifCond .eq 5, 3) := by decide +kernel
theorem dX12_shared_35 : decode cX12_shared 35 = .ok (.lconst 0, 1) := by decide +kernel
theorem dX12_shared_36 : decode cX12_shared 36 = .ok (.lreturn, 1) := by decide +kernel
theorem dX12_shut_0 : decode cX12_shut 0 = .ok (.aload_n 0, 1) := by decide +kernel
theorem dX12_shut_1 : decode cX12_shut 1 = .ok (.iconst 0, 1) := by decide +kernel
theorem dX12_shut_2 : decode cX12_shut 2 = .ok (.putfield 56, 3) := by decide +kernel
theorem dX12_shut_5 : decode cX12_shut 5 = .ok (.aload_n 0, 1) := by decide +kernel
theorem dX12_shut_6 : decode cX12_shut 6 = .ok (.aload_n 0, 1) := by decide +kernel
theorem dX12_shut_7 : decode cX12_shut 7 = .ok (.iload_n 1, 1) := by decide +kernel
theorem dX12_shut_8 : decode cX12_shut 8 = .ok (.invokevirtual 144, 3) := by decide +kernel
theorem dX12_shut_11 : decode cX12_shut 11 = .ok (.ifCond .ne 7, 3) := by decide +kernel
theorem dX12_shut_14 : decode cX12_shut 14 = .ok (.iconst 1, 1) := by decide +kernel
theorem dX12_shut_15 : decode cX12_shut 15 = .ok (.goto 4, 3) := by decide +kernel
theorem dX12_shut_19 : decode cX12_shut 19 = .ok (.iconst 1, 1) := by decide +kernel
theorem dX12_shut_20 : decode cX12_shut 20 = .ok (.iconst 0, 1) := by decide +kernel
theorem dX12_shut_21 : decode cX12_shut 21 = .ok (.invokevirtual 114, 3) := by decide +kernel
theorem dX12_shut_24 : decode cX12_shut 24 = .ok (.ifCond .eq 5, 3) := by decide +kernel
theorem dX12_shut_27 : decode cX12_shut 27 = .ok (.iconst 0, 1) := by decide +kernel
theorem dX12_shut_28 : decode cX12_shut 28 = .ok (.ireturn, 1) := by decide +kernel
theorem dX12_soonest_0 : decode cX12_soonest 0 = .ok (.aload_n 0, 1) := by decide +kernel
theorem dX12_soonest_1 : decode cX12_soonest 1 = .ok (.iconst 0, 1) := by decide +kernel
theorem dX12_soonest_2 : decode cX12_soonest 2 = .ok (.putfield 56, 3) := by decide +kernel
theorem dX12_soonest_5 : decode cX12_soonest 5 = .ok (.aload_n 0, 1) := by decide +kernel
theorem dX12_soonest_6 : decode cX12_soonest 6 = .ok (.aload_n 0, 1) := by decide +kernel
theorem dX12_soonest_7 : decode cX12_soonest 7 = .ok (.iload_n 1, 1) := by decide +kernel
theorem dX12_soonest_8 : decode cX12_soonest 8 = .ok (.invokevirtual 131, 3) := by decide +kernel
theorem dX12_soonest_11 : decode cX12_soonest 11 = .ok (.ifCond .ne 7, 3) := by decide +kernel
theorem dX12_soonest_14 : decode cX12_soonest 14 = .ok (.iconst 1, 1) := by decide +kernel
theorem dX12_soonest_15 : decode cX12_soonest 15 = .ok (.goto 4, 3) := by decide +kernel
theorem dX12_soonest_19 : decode cX12_soonest 19 = .ok (.iconst 1, 1) := by decide +kernel
theorem dX12_soonest_20 : decode cX12_soonest 20 = .ok (.iconst 0, 1) := by decide +kernel
theorem dX12_soonest_21 : decode cX12_soonest 21 = .ok (.invokevirtual 114, 3) := by decide +kernel
theorem dX12_soonest_24 : decode cX12_soonest 24 = .ok (.ifCond .ne 24, 3) := by decide +kernel
theorem dX12_soonest_48 : decode cX12_soonest 48 = .ok (.iconst 0, 1) := by decide +kernel
theorem dX12_soonest_49 : decode cX12_soonest 49 = .ok (.ireturn, 1) := by decide +kernel
theorem dX12_status_0 : decode cX12_status 0 = .ok (.aload_n 0, 1) := by decide +kernel
theorem dX12_status_1 : decode cX12_status 1 = .ok (.iconst 0, 1) := by decide +kernel
theorem dX12_status_2 : decode cX12_status 2 = .ok (.putfield 56, 3) := by decide +kernel
theorem dX12_status_5 : decode cX12_status 5 = .ok (.iload_n 1, 1) := by decide +kernel
theorem dX12_status_6 : decode cX12_status 6 = .ok (.iconst 0, 1) := by decide +kernel
theorem dX12_status_7 : decode cX12_status 7 = .ok (.iconst 1, 1) := by decide +kernel
theorem dX12_status_8 : decode cX12_status 8 = .ok (.invokestatic 74, 3) := by decide +kernel
theorem dX12_status_11 : decode cX12_status 11 = .ok (.ifCond .eq 12, 3) := by decide +kernel
theorem dX12_status_14 : decode cX12_status 14 = .ok (.aload_n 0, 1) := by decide +kernel
theorem dX12_status_15 : decode cX12_status 15 = .ok (.getfield 7, 3) := by decide +kernel
theorem dX12_status_18 : decode cX12_status 18 = .ok (.iload_n 1, 1) := by decide +kernel
theorem dX12_status_19 : decode cX12_status 19 = .ok (.iaload, 1) := by decide +kernel
theorem dX12_status_20 : decode cX12_status 20 = .ok (.goto 4, 3) := by decide +kernel
theorem dX12_status_23 : decode cX12_status 23 = .ok (.iconst (-1), 1) := by decide +kernel
theorem dX12_status_24 : decode cX12_status 24 = .ok (.ireturn, 1) := by decide +kernel
theorem dX12_step_0 : decode cX12_step 0 = .ok (.aload_n 0, 1) := by decide +kernel
theorem dX12_step_1 : decode cX12_step 1 = .ok (.iconst 0, 1) := by decide +kernel
theorem dX12_step_2 : decode cX12_step 2 = .ok (.putfield 56, 3) := by decide +kernel
theorem dX12_step_5 : decode cX12_step 5 = .ok (.aload_n 0, 1) := by decide +kernel
theorem dX12_step_6 : decode cX12_step 6 = .ok (.iload_n 1, 1) := by decide +kernel
theorem dX12_step_7 : decode cX12_step 7 = .ok (.invokevirtual 258, 3) := by decide +kernel
theorem dX12_step_10 : decode cX12_step 10 = .ok (.istore 4, 2) := by decide +kernel
theorem dX12_step_12 : decode cX12_step 12 = .ok (.aload_n 0, 1) := by decide +kernel
theorem dX12_step_13 : decode cX12_step 13 = .ok (.iload 4, 2) := by decide +kernel
theorem dX12_step_15 : decode cX12_step 15 = .ok (.ifCond .eq 30, 3) := by decide +kernel
theorem dX12_step_45 : decode cX12_step 45 = .ok (.iconst 1, 1) := by decide +kernel
theorem dX12_step_46 : decode cX12_step 46 = .ok (.goto 4, 3) := by decide +kernel
theorem dX12_step_50 : decode cX12_step 50 = .ok (.iconst 1, 1) := by decide +kernel
theorem dX12_step_51 : decode cX12_step 51 = .ok (.iconst 0, 1) := by decide +kernel
theorem dX12_step_52 : decode cX12_step 52 = .ok (.invokevirtual 114, 3) := by decide +kernel
theorem dX12_step_55 : decode cX12_step 55 = .ok (.ifCond .ne 26, 3) := by decide +kernel
theorem dX12_step_81 : decode cX12_step 81 = .ok (.iconst 0, 1) := by decide +kernel
theorem dX12_step_82 : decode cX12_step 82 = .ok (.ireturn, 1) := by decide +kernel
theorem dX12_terms_0 : decode cX12_terms 0 = .ok (.aload_n 0, 1) := by decide +kernel
theorem dX12_terms_1 : decode cX12_terms 1 = .ok (.iconst 0, 1) := by decide +kernel
theorem dX12_terms_2 : decode cX12_terms 2 = .ok (.putfield 56, 3) := by decide +kernel
theorem dX12_terms_5 : decode cX12_terms 5 = .ok (.aload_n 0, 1) := by decide +kernel
theorem dX12_terms_6 : decode cX12_terms 6 = .ok (.aload_n 0, 1) := by decide +kernel
theorem dX12_terms_7 : decode cX12_terms 7 = .ok (.iload_n 1, 1) := by decide +kernel
theorem dX12_terms_8 : decode cX12_terms 8 = .ok (.invokevirtual 144, 3) := by decide +kernel
theorem dX12_terms_11 : decode cX12_terms 11 = .ok (.ifCond .ne 7, 3) := by decide +kernel
theorem dX12_terms_14 : decode cX12_terms 14 = .ok (.iconst 1, 1) := by decide +kernel
theorem dX12_terms_15 : decode cX12_terms 15 = .ok (.goto 4, 3) := by decide +kernel
theorem dX12_terms_19 : decode cX12_terms 19 = .ok (.iconst 1, 1) := by decide +kernel
theorem dX12_terms_20 : decode cX12_terms 20 = .ok (.iconst 0, 1) := by decide +kernel
theorem dX12_terms_21 : decode cX12_terms 21 = .ok (.invokevirtual 114, 3) := by decide +kernel
theorem dX12_terms_24 : decode cX12_terms 24 = .ok (.ifCond .ne 61, 3) := by decide +kernel
theorem dX12_terms_85 : decode cX12_terms 85 = .ok (.iconst 0, 1) := by decide +kernel
theorem dX12_terms_86 : decode cX12_terms 86 = .ok (.ireturn, 1) := by decide +kernel
theorem dX12_thrown_0 : decode cX12_thrown 0 = .ok (.aload_n 0, 1) := by decide +kernel
theorem dX12_thrown_1 : decode cX12_thrown 1 = .ok (.getfield 56, 3) := by decide +kernel
theorem dX12_thrown_4 : decode cX12_thrown 4 = .ok (.ireturn, 1) := by decide +kernel
theorem dX12_tied_0 : decode cX12_tied 0 = .ok (.aload_n 0, 1) := by decide +kernel
theorem dX12_tied_1 : decode cX12_tied 1 = .ok (.iconst 0, 1) := by decide +kernel
theorem dX12_tied_2 : decode cX12_tied 2 = .ok (.putfield 56, 3) := by decide +kernel
theorem dX12_tied_5 : decode cX12_tied 5 = .ok (.aload_n 0, 1) := by decide +kernel
theorem dX12_tied_6 : decode cX12_tied 6 = .ok (.aload_n 0, 1) := by decide +kernel
theorem dX12_tied_7 : decode cX12_tied 7 = .ok (.iload_n 1, 1) := by decide +kernel
theorem dX12_tied_8 : decode cX12_tied 8 = .ok (.invokevirtual 144, 3) := by decide +kernel
theorem dX12_tied_11 : decode cX12_tied 11 = .ok (.ifCond .ne 7, 3) := by decide +kernel
theorem dX12_tied_14 : decode cX12_tied 14 = .ok (.iconst 1, 1) := by decide +kernel
theorem dX12_tied_15 : decode cX12_tied 15 = .ok (.goto 4, 3) := by decide +kernel
theorem dX12_tied_19 : decode cX12_tied 19 = .ok (.iconst 1, 1) := by decide +kernel
theorem dX12_tied_20 : decode cX12_tied 20 = .ok (.iconst 0, 1) := by decide +kernel
theorem dX12_tied_21 : decode cX12_tied 21 = .ok (.invokevirtual 114, 3) := by decide +kernel
theorem dX12_tied_24 : decode cX12_tied 24 = .ok (.ifCond .eq 5, 3) := by decide +kernel
theorem dX12_tied_27 : decode cX12_tied 27 = .ok (.lconst 0, 1) := by decide +kernel
theorem dX12_tied_28 : decode cX12_tied 28 = .ok (.lreturn, 1) := by decide +kernel
theorem dX12_tiedUp_0 : decode cX12_tiedUp 0 = .ok (.aload_n 0, 1) := by decide +kernel
theorem dX12_tiedUp_1 : decode cX12_tiedUp 1 = .ok (.iconst 0, 1) := by decide +kernel
theorem dX12_tiedUp_2 : decode cX12_tiedUp 2 = .ok (.putfield 56, 3) := by decide +kernel
theorem dX12_tiedUp_5 : decode cX12_tiedUp 5 = .ok (.aload_n 0, 1) := by decide +kernel
theorem dX12_tiedUp_6 : decode cX12_tiedUp 6 = .ok (.aload_n 0, 1) := by decide +kernel
theorem dX12_tiedUp_7 : decode cX12_tiedUp 7 = .ok (.iload_n 1, 1) := by decide +kernel
theorem dX12_tiedUp_8 : decode cX12_tiedUp 8 = .ok (.invokevirtual 272, 3) := by decide +kernel
theorem dX12_tiedUp_11 : decode cX12_tiedUp 11 = .ok (.ifCond .ne 7, 3) := by decide +kernel
theorem dX12_tiedUp_14 : decode cX12_tiedUp 14 = .ok (.iconst 1, 1) := by decide +kernel
theorem dX12_tiedUp_15 : decode cX12_tiedUp 15 = .ok (.goto 4, 3) := by decide +kernel
theorem dX12_tiedUp_19 : decode cX12_tiedUp 19 = .ok (.iconst 1, 1) := by decide +kernel
theorem dX12_tiedUp_20 : decode cX12_tiedUp 20 = .ok (.iconst 0, 1) := by decide +kernel
theorem dX12_tiedUp_21 : decode cX12_tiedUp 21 = .ok (.invokevirtual 114, 3) := by decide +kernel
theorem dX12_tiedUp_24 : decode cX12_tiedUp 24 = .ok (.ifCond .eq 5, 3) := by decide +kernel
theorem dX12_tiedUp_27 : decode cX12_tiedUp 27 = .ok (.lconst 0, 1) := by decide +kernel
theorem dX12_tiedUp_28 : decode cX12_tiedUp 28 = .ok (.lreturn, 1) := by decide +kernel
theorem dX12_told_0 : decode cX12_told 0 = .ok (.aload_n 0, 1) := by decide +kernel
theorem dX12_told_1 : decode cX12_told 1 = .ok (.iconst 0, 1) := by decide +kernel
theorem dX12_told_2 : decode cX12_told 2 = .ok (.putfield 56, 3) := by decide +kernel
theorem dX12_told_5 : decode cX12_told 5 = .ok (.aload_n 0, 1) := by decide +kernel
theorem dX12_told_6 : decode cX12_told 6 = .ok (.iload_n 1, 1) := by decide +kernel
theorem dX12_told_7 : decode cX12_told 7 = .ok (.iconst 0, 1) := by decide +kernel
theorem dX12_told_8 : decode cX12_told 8 = .ok (.bipush 9, 2) := by decide +kernel
theorem dX12_told_10 : decode cX12_told 10 = .ok (.invokestatic 74, 3) := by decide +kernel
theorem dX12_told_13 : decode cX12_told 13 = .ok (.ifCond .ne 7, 3) := by decide +kernel
theorem dX12_told_16 : decode cX12_told 16 = .ok (.iconst 1, 1) := by decide +kernel
theorem dX12_told_17 : decode cX12_told 17 = .ok (.goto 4, 3) := by decide +kernel
theorem dX12_told_20 : decode cX12_told 20 = .ok (.iconst 0, 1) := by decide +kernel
theorem dX12_told_21 : decode cX12_told 21 = .ok (.iconst 1, 1) := by decide +kernel
theorem dX12_told_22 : decode cX12_told 22 = .ok (.iconst 1, 1) := by decide +kernel
theorem dX12_told_23 : decode cX12_told 23 = .ok (.invokevirtual 114, 3) := by decide +kernel
theorem dX12_told_26 : decode cX12_told 26 = .ok (.ifCond .eq 5, 3) := by decide +kernel
theorem dX12_told_29 : decode cX12_told 29 = .ok (.iconst 0, 1) := by decide +kernel
theorem dX12_told_30 : decode cX12_told 30 = .ok (.ireturn, 1) := by decide +kernel
theorem dX12_told_31 : decode cX12_told 31 = .ok (.aload_n 0, 1) := by decide +kernel
theorem dX12_told_32 : decode cX12_told 32 = .ok (.invokevirtual 208, 3) := by decide +kernel
theorem dX12_told_35 : decode cX12_told 35 = .ok (.istore_n 2, 1) := by decide +kernel
theorem dX12_told_36 : decode cX12_told 36 = .ok (.iload_n 1, 1) := by decide +kernel
theorem dX12_told_37 : decode cX12_told 37 = .ok (.tableswitch 100 0 8 #[51, 56, 61, 66, 71, 76, 82, 88, 94], 51) := by decide +kernel
theorem dX12_told_88 : decode cX12_told 88 = .ok (.aload_n 0, 1) := by decide +kernel
theorem dX12_told_89 : decode cX12_told 89 = .ok (.getfield 158, 3) := by decide +kernel
theorem dX12_told_92 : decode cX12_told 92 = .ok (.ireturn, 1) := by decide +kernel
theorem dX12_told_93 : decode cX12_told 93 = .ok (.aload_n 0, 1) := by decide +kernel
theorem dX12_told_94 : decode cX12_told 94 = .ok (.getfield 118, 3) := by decide +kernel
theorem dX12_told_97 : decode cX12_told 97 = .ok (.ireturn, 1) := by decide +kernel
theorem dX12_told_98 : decode cX12_told 98 = .ok (.aload_n 0, 1) := by decide +kernel
theorem dX12_told_99 : decode cX12_told 99 = .ok (.getfield 121, 3) := by decide +kernel
theorem dX12_told_102 : decode cX12_told 102 = .ok (.ireturn, 1) := by decide +kernel
theorem dX12_told_103 : decode cX12_told 103 = .ok (.aload_n 0, 1) := by decide +kernel
theorem dX12_told_104 : decode cX12_told 104 = .ok (.getfield 124, 3) := by decide +kernel
theorem dX12_told_107 : decode cX12_told 107 = .ok (.ireturn, 1) := by decide +kernel
theorem dX12_told_108 : decode cX12_told 108 = .ok (.aload_n 0, 1) := by decide +kernel
theorem dX12_told_109 : decode cX12_told 109 = .ok (.getfield 151, 3) := by decide +kernel
theorem dX12_told_112 : decode cX12_told 112 = .ok (.ireturn, 1) := by decide +kernel
theorem dX12_told_113 : decode cX12_told 113 = .ok (.aload_n 0, 1) := by decide +kernel
theorem dX12_told_114 : decode cX12_told 114 = .ok (.iconst 0, 1) := by decide +kernel
theorem dX12_told_115 : decode cX12_told 115 = .ok (.invokevirtual 297, 3) := by decide +kernel
theorem dX12_told_118 : decode cX12_told 118 = .ok (.ireturn, 1) := by decide +kernel
theorem dX12_told_119 : decode cX12_told 119 = .ok (.aload_n 0, 1) := by decide +kernel
theorem dX12_told_120 : decode cX12_told 120 = .ok (.iconst 1, 1) := by decide +kernel
theorem dX12_told_121 : decode cX12_told 121 = .ok (.invokevirtual 297, 3) := by decide +kernel
theorem dX12_told_124 : decode cX12_told 124 = .ok (.ireturn, 1) := by decide +kernel
theorem dX12_told_125 : decode cX12_told 125 = .ok (.aload_n 0, 1) := by decide +kernel
theorem dX12_told_126 : decode cX12_told 126 = .ok (.iconst 2, 1) := by decide +kernel
theorem dX12_told_127 : decode cX12_told 127 = .ok (.invokevirtual 297, 3) := by decide +kernel
theorem dX12_told_130 : decode cX12_told 130 = .ok (.ireturn, 1) := by decide +kernel
theorem dX12_told_131 : decode cX12_told 131 = .ok (.aload_n 0, 1) := by decide +kernel
theorem dX12_told_132 : decode cX12_told 132 = .ok (.iconst 3, 1) := by decide +kernel
theorem dX12_told_133 : decode cX12_told 133 = .ok (.invokevirtual 297, 3) := by decide +kernel
theorem dX12_told_136 : decode cX12_told 136 = .ok (.ireturn, 1) := by decide +kernel
theorem dX12_told_137 : decode cX12_told 137 = .ok (.iload_n 2, 1) := by decide +kernel
theorem dX12_told_138 : decode cX12_told 138 = .ok (.iconst (-1), 1) := by decide +kernel
theorem dX12_told_139 : decode cX12_told 139 = .ok (.if_icmp .ne 7, 3) := by decide +kernel
theorem dX12_told_142 : decode cX12_told 142 = .ok (.iconst (-1), 1) := by decide +kernel
theorem dX12_told_143 : decode cX12_told 143 = .ok (.goto 8, 3) := by decide +kernel
theorem dX12_told_151 : decode cX12_told 151 = .ok (.ireturn, 1) := by decide +kernel
theorem dX12_until_0 : decode cX12_until 0 = .ok (.aload_n 0, 1) := by decide +kernel
theorem dX12_until_1 : decode cX12_until 1 = .ok (.iconst 0, 1) := by decide +kernel
theorem dX12_until_2 : decode cX12_until 2 = .ok (.putfield 56, 3) := by decide +kernel
theorem dX12_until_5 : decode cX12_until 5 = .ok (.aload_n 0, 1) := by decide +kernel
theorem dX12_until_6 : decode cX12_until 6 = .ok (.iload_n 1, 1) := by decide +kernel
theorem dX12_until_7 : decode cX12_until 7 = .ok (.aload_n 0, 1) := by decide +kernel
theorem dX12_until_8 : decode cX12_until 8 = .ok (.getfield 158, 3) := by decide +kernel
theorem dX12_until_11 : decode cX12_until 11 = .ok (.ldc 78, 2) := by decide +kernel
theorem dX12_until_13 : decode cX12_until 13 = .ok (.invokestatic 74, 3) := by decide +kernel
theorem dX12_until_16 : decode cX12_until 16 = .ok (.ifCond .ne 7, 3) := by decide +kernel
theorem dX12_until_19 : decode cX12_until 19 = .ok (.iconst 1, 1) := by decide +kernel
theorem dX12_until_20 : decode cX12_until 20 = .ok (.goto 4, 3) := by decide +kernel
theorem dX12_until_23 : decode cX12_until 23 = .ok (.iconst 0, 1) := by decide +kernel
theorem dX12_until_24 : decode cX12_until 24 = .ok (.iconst 1, 1) := by decide +kernel
theorem dX12_until_25 : decode cX12_until 25 = .ok (.iconst 1, 1) := by decide +kernel
theorem dX12_until_26 : decode cX12_until 26 = .ok (.invokevirtual 114, 3) := by decide +kernel
theorem dX12_until_29 : decode cX12_until 29 = .ok (.ifCond .eq 5, 3) := by decide +kernel
theorem dX12_until_32 : decode cX12_until 32 = .ok (.iconst 0, 1) := by decide +kernel
theorem dX12_until_33 : decode cX12_until 33 = .ok (.ireturn, 1) := by decide +kernel
theorem dX12_until_34 : decode cX12_until 34 = .ok (.iconst 0, 1) := by decide +kernel
theorem dX12_until_35 : decode cX12_until 35 = .ok (.istore_n 2, 1) := by decide +kernel
theorem dX12_until_36 : decode cX12_until 36 = .ok (.iconst 0, 1) := by decide +kernel
theorem dX12_until_37 : decode cX12_until 37 = .ok (.istore_n 3, 1) := by decide +kernel
theorem dX12_until_38 : decode cX12_until 38 = .ok (.iload_n 3, 1) := by decide +kernel
theorem dX12_until_39 : decode cX12_until 39 = .ok (.aload_n 0, 1) := by decide +kernel
theorem dX12_until_40 : decode cX12_until 40 = .ok (.getfield 151, 3) := by decide +kernel
theorem dX12_until_43 : decode cX12_until 43 = .ok (.if_icmp .ge 133, 3) := by decide +kernel
theorem dX12_until_176 : decode cX12_until 176 = .ok (.iload_n 2, 1) := by decide +kernel
theorem dX12_until_177 : decode cX12_until 177 = .ok (.ireturn, 1) := by decide +kernel
theorem dX12_used_0 : decode cX12_used 0 = .ok (.aload_n 0, 1) := by decide +kernel
theorem dX12_used_1 : decode cX12_used 1 = .ok (.iconst 0, 1) := by decide +kernel
theorem dX12_used_2 : decode cX12_used 2 = .ok (.putfield 56, 3) := by decide +kernel
theorem dX12_used_5 : decode cX12_used 5 = .ok (.aload_n 0, 1) := by decide +kernel
theorem dX12_used_6 : decode cX12_used 6 = .ok (.aload_n 0, 1) := by decide +kernel
theorem dX12_used_7 : decode cX12_used 7 = .ok (.iload_n 1, 1) := by decide +kernel
theorem dX12_used_8 : decode cX12_used 8 = .ok (.invokevirtual 144, 3) := by decide +kernel
theorem dX12_used_11 : decode cX12_used 11 = .ok (.ifCond .ne 7, 3) := by decide +kernel
theorem dX12_used_14 : decode cX12_used 14 = .ok (.iconst 1, 1) := by decide +kernel
theorem dX12_used_15 : decode cX12_used 15 = .ok (.goto 4, 3) := by decide +kernel
theorem dX12_used_19 : decode cX12_used 19 = .ok (.iconst 1, 1) := by decide +kernel
theorem dX12_used_20 : decode cX12_used 20 = .ok (.iconst 0, 1) := by decide +kernel
theorem dX12_used_21 : decode cX12_used 21 = .ok (.invokevirtual 114, 3) := by decide +kernel
theorem dX12_used_24 : decode cX12_used 24 = .ok (.ifCond .ne 28, 3) := by decide +kernel
theorem dX12_used_52 : decode cX12_used 52 = .ok (.iconst 0, 1) := by decide +kernel
theorem dX12_used_53 : decode cX12_used 53 = .ok (.ireturn, 1) := by decide +kernel
theorem dX12_vital_0 : decode cX12_vital 0 = .ok (.aload_n 0, 1) := by decide +kernel
theorem dX12_vital_1 : decode cX12_vital 1 = .ok (.iconst 0, 1) := by decide +kernel
theorem dX12_vital_2 : decode cX12_vital 2 = .ok (.putfield 56, 3) := by decide +kernel
theorem dX12_vital_5 : decode cX12_vital 5 = .ok (.aload_n 0, 1) := by decide +kernel
theorem dX12_vital_6 : decode cX12_vital 6 = .ok (.aload_n 0, 1) := by decide +kernel
theorem dX12_vital_7 : decode cX12_vital 7 = .ok (.getfield 249, 3) := by decide +kernel
theorem dX12_vital_10 : decode cX12_vital 10 = .ok (.ifCond .ne 7, 3) := by decide +kernel
theorem dX12_vital_13 : decode cX12_vital 13 = .ok (.iconst 1, 1) := by decide +kernel
theorem dX12_vital_14 : decode cX12_vital 14 = .ok (.goto 4, 3) := by decide +kernel
theorem dX12_vital_18 : decode cX12_vital 18 = .ok (.iconst 1, 1) := by decide +kernel
theorem dX12_vital_19 : decode cX12_vital 19 = .ok (.iconst 1, 1) := by decide +kernel
theorem dX12_vital_20 : decode cX12_vital 20 = .ok (.invokevirtual 114, 3) := by decide +kernel
theorem dX12_vital_23 : decode cX12_vital 23 = .ok (.ifCond .eq 5, 3) := by decide +kernel
theorem dX12_vital_26 : decode cX12_vital 26 = .ok (.lconst 0, 1) := by decide +kernel
theorem dX12_vital_27 : decode cX12_vital 27 = .ok (.lreturn, 1) := by decide +kernel
theorem dX12_without_0 : decode cX12_without 0 = .ok (.aload_n 0, 1) := by decide +kernel
theorem dX12_without_1 : decode cX12_without 1 = .ok (.iconst 0, 1) := by decide +kernel
theorem dX12_without_2 : decode cX12_without 2 = .ok (.putfield 56, 3) := by decide +kernel
theorem dX12_without_5 : decode cX12_without 5 = .ok (.aload_n 0, 1) := by decide +kernel
theorem dX12_without_6 : decode cX12_without 6 = .ok (.aload_n 0, 1) := by decide +kernel
theorem dX12_without_7 : decode cX12_without 7 = .ok (.iload_n 1, 1) := by decide +kernel
theorem dX12_without_8 : decode cX12_without 8 = .ok (.invokevirtual 144, 3) := by decide +kernel
theorem dX12_without_11 : decode cX12_without 11 = .ok (.ifCond .ne 7, 3) := by decide +kernel
theorem dX12_without_14 : decode cX12_without 14 = .ok (.iconst 1, 1) := by decide +kernel
theorem dX12_without_15 : decode cX12_without 15 = .ok (.goto 4, 3) := by decide +kernel
theorem dX12_without_19 : decode cX12_without 19 = .ok (.iconst 1, 1) := by decide +kernel
theorem dX12_without_20 : decode cX12_without 20 = .ok (.iconst 0, 1) := by decide +kernel
theorem dX12_without_21 : decode cX12_without 21 = .ok (.invokevirtual 114, 3) := by decide +kernel
theorem dX12_without_24 : decode cX12_without 24 = .ok (.ifCond .ne 24, 3) := by decide +kernel
theorem dX12_without_48 : decode cX12_without 48 = .ok (.iconst 0, 1) := by decide +kernel
theorem dX12_without_49 : decode cX12_without 49 = .ok (.ireturn, 1) := by decide +kernel
theorem dX1_countIn_0 : decode cX1_countIn 0 = .ok (.iconst 0, 1) := by decide +kernel
theorem dX1_countIn_1 : decode cX1_countIn 1 = .ok (.istore_n 2, 1) := by decide +kernel
theorem dX1_countIn_2 : decode cX1_countIn 2 = .ok (.iconst 0, 1) := by decide +kernel
theorem dX1_countIn_3 : decode cX1_countIn 3 = .ok (.istore_n 3, 1) := by decide +kernel
theorem dX1_countIn_4 : decode cX1_countIn 4 = .ok (.iload_n 3, 1) := by decide +kernel
theorem dX1_countIn_5 : decode cX1_countIn 5 = .ok (.aload_n 0, 1) := by decide +kernel
theorem dX1_countIn_6 : decode cX1_countIn 6 = .ok (.getfield 21, 3) := by decide +kernel
theorem dX1_countIn_9 : decode cX1_countIn 9 = .ok (.if_icmp .ge 30, 3) := by decide +kernel
theorem dX1_countIn_39 : decode cX1_countIn 39 = .ok (.iload_n 2, 1) := by decide +kernel
theorem dX1_countIn_40 : decode cX1_countIn 40 = .ok (.ireturn, 1) := by decide +kernel
theorem dX1_countUpTo_0 : decode cX1_countUpTo 0 = .ok (.iconst 0, 1) := by decide +kernel
theorem dX1_countUpTo_1 : decode cX1_countUpTo 1 = .ok (.istore_n 2, 1) := by decide +kernel
theorem dX1_countUpTo_2 : decode cX1_countUpTo 2 = .ok (.iconst 0, 1) := by decide +kernel
theorem dX1_countUpTo_3 : decode cX1_countUpTo 3 = .ok (.istore_n 3, 1) := by decide +kernel
theorem dX1_countUpTo_4 : decode cX1_countUpTo 4 = .ok (.iload_n 3, 1) := by decide +kernel
theorem dX1_countUpTo_5 : decode cX1_countUpTo 5 = .ok (.aload_n 0, 1) := by decide +kernel
theorem dX1_countUpTo_6 : decode cX1_countUpTo 6 = .ok (.getfield 21, 3) := by decide +kernel
theorem dX1_countUpTo_9 : decode cX1_countUpTo 9 = .ok (.if_icmp .ge 22, 3) := by decide +kernel
theorem dX1_countUpTo_31 : decode cX1_countUpTo 31 = .ok (.iload_n 2, 1) := by decide +kernel
theorem dX1_countUpTo_32 : decode cX1_countUpTo 32 = .ok (.ireturn, 1) := by decide +kernel
theorem dX1_happenUpTo_0 : decode cX1_happenUpTo 0 = .ok (.iconst 0, 1) := by decide +kernel
theorem dX1_happenUpTo_1 : decode cX1_happenUpTo 1 = .ok (.istore_n 2, 1) := by decide +kernel
theorem dX1_happenUpTo_2 : decode cX1_happenUpTo 2 = .ok (.iconst 0, 1) := by decide +kernel
theorem dX1_happenUpTo_3 : decode cX1_happenUpTo 3 = .ok (.istore_n 3, 1) := by decide +kernel
theorem dX1_happenUpTo_4 : decode cX1_happenUpTo 4 = .ok (.iload_n 3, 1) := by decide +kernel
theorem dX1_happenUpTo_5 : decode cX1_happenUpTo 5 = .ok (.sipush 1000, 3) := by decide +kernel
theorem dX1_happenUpTo_8 : decode cX1_happenUpTo 8 = .ok (.if_icmp .ge 63, 3) := by decide +kernel
theorem dX1_happenUpTo_11 : decode cX1_happenUpTo 11 = .ok (.aload_n 0, 1) := by decide +kernel
theorem dX1_happenUpTo_12 : decode cX1_happenUpTo 12 = .ok (.invokevirtual 81, 3) := by decide +kernel
theorem dX1_happenUpTo_15 : decode cX1_happenUpTo 15 = .ok (.istore 4, 2) := by decide +kernel
theorem dX1_happenUpTo_17 : decode cX1_happenUpTo 17 = .ok (.iload 4, 2) := by decide +kernel
theorem dX1_happenUpTo_19 : decode cX1_happenUpTo 19 = .ok (.iconst (-1), 1) := by decide +kernel
theorem dX1_happenUpTo_20 : decode cX1_happenUpTo 20 = .ok (.if_icmp .eq 9, 3) := by decide +kernel
theorem dX1_happenUpTo_29 : decode cX1_happenUpTo 29 = .ok (.iload_n 2, 1) := by decide +kernel
theorem dX1_happenUpTo_30 : decode cX1_happenUpTo 30 = .ok (.ireturn, 1) := by decide +kernel
theorem dX1_init_0 : decode cX1_init 0 = .ok (.aload_n 0, 1) := by decide +kernel
theorem dX1_init_1 : decode cX1_init 1 = .ok (.invokespecial 3, 3) := by decide +kernel
theorem dX1_init_4 : decode cX1_init 4 = .ok (.aload_n 0, 1) := by decide +kernel
theorem dX1_init_5 : decode cX1_init 5 = .ok (.bipush 64, 2) := by decide +kernel
theorem dX1_init_7 : decode cX1_init 7 = .ok (.anewarray 9, 3) := by decide +kernel
theorem dX1_init_10 : decode cX1_init 10 = .ok (.putfield 11, 3) := by decide +kernel
theorem dX1_init_13 : decode cX1_init 13 = .ok (.aload_n 0, 1) := by decide +kernel
theorem dX1_init_14 : decode cX1_init 14 = .ok (.aload_n 1, 1) := by decide +kernel
theorem dX1_init_15 : decode cX1_init 15 = .ok (.putfield 17, 3) := by decide +kernel
theorem dX1_init_18 : decode cX1_init 18 = .ok (.return_, 1) := by decide +kernel
theorem dX1_nextMinute_0 : decode cX1_nextMinute 0 = .ok (.iconst (-1), 1) := by decide +kernel
theorem dX1_nextMinute_1 : decode cX1_nextMinute 1 = .ok (.istore_n 1, 1) := by decide +kernel
theorem dX1_nextMinute_2 : decode cX1_nextMinute 2 = .ok (.iconst 0, 1) := by decide +kernel
theorem dX1_nextMinute_3 : decode cX1_nextMinute 3 = .ok (.istore_n 2, 1) := by decide +kernel
theorem dX1_nextMinute_4 : decode cX1_nextMinute 4 = .ok (.iload_n 2, 1) := by decide +kernel
theorem dX1_nextMinute_5 : decode cX1_nextMinute 5 = .ok (.aload_n 0, 1) := by decide +kernel
theorem dX1_nextMinute_6 : decode cX1_nextMinute 6 = .ok (.getfield 21, 3) := by decide +kernel
theorem dX1_nextMinute_9 : decode cX1_nextMinute 9 = .ok (.if_icmp .ge 36, 3) := by decide +kernel
theorem dX1_nextMinute_45 : decode cX1_nextMinute 45 = .ok (.iload_n 1, 1) := by decide +kernel
theorem dX1_nextMinute_46 : decode cX1_nextMinute 46 = .ok (.ireturn, 1) := by decide +kernel
theorem dX2_init_0 : decode cX2_init 0 = .ok (.aload_n 0, 1) := by decide +kernel
theorem dX2_init_1 : decode cX2_init 1 = .ok (.invokespecial 3, 3) := by decide +kernel
theorem dX2_init_4 : decode cX2_init 4 = .ok (.aload_n 0, 1) := by decide +kernel
theorem dX2_init_5 : decode cX2_init 5 = .ok (.bipush 64, 2) := by decide +kernel
theorem dX2_init_7 : decode cX2_init 7 = .ok (.newarray .int, 2) := by decide +kernel
theorem dX2_init_9 : decode cX2_init 9 = .ok (.putfield 11, 3) := by decide +kernel
theorem dX2_init_12 : decode cX2_init 12 = .ok (.aload_n 0, 1) := by decide +kernel
theorem dX2_init_13 : decode cX2_init 13 = .ok (.bipush 64, 2) := by decide +kernel
theorem dX2_init_15 : decode cX2_init 15 = .ok (.newarray .int, 2) := by decide +kernel
theorem dX2_init_17 : decode cX2_init 17 = .ok (.putfield 15, 3) := by decide +kernel
theorem dX2_init_20 : decode cX2_init 20 = .ok (.aload_n 0, 1) := by decide +kernel
theorem dX2_init_21 : decode cX2_init 21 = .ok (.bipush 64, 2) := by decide +kernel
theorem dX2_init_23 : decode cX2_init 23 = .ok (.newarray .int, 2) := by decide +kernel
theorem dX2_init_25 : decode cX2_init 25 = .ok (.putfield 18, 3) := by decide +kernel
theorem dX2_init_28 : decode cX2_init 28 = .ok (.aload_n 0, 1) := by decide +kernel
theorem dX2_init_29 : decode cX2_init 29 = .ok (.bipush 64, 2) := by decide +kernel
theorem dX2_init_31 : decode cX2_init 31 = .ok (.newarray .int, 2) := by decide +kernel
theorem dX2_init_33 : decode cX2_init 33 = .ok (.putfield 21, 3) := by decide +kernel
theorem dX2_init_36 : decode cX2_init 36 = .ok (.aload_n 0, 1) := by decide +kernel
theorem dX2_init_37 : decode cX2_init 37 = .ok (.bipush 64, 2) := by decide +kernel
theorem dX2_init_39 : decode cX2_init 39 = .ok (.newarray .int, 2) := by decide +kernel
theorem dX2_init_41 : decode cX2_init 41 = .ok (.putfield 24, 3) := by decide +kernel
theorem dX2_init_44 : decode cX2_init 44 = .ok (.aload_n 0, 1) := by decide +kernel
theorem dX2_init_45 : decode cX2_init 45 = .ok (.bipush 64, 2) := by decide +kernel
theorem dX2_init_47 : decode cX2_init 47 = .ok (.newarray .int, 2) := by decide +kernel
theorem dX2_init_49 : decode cX2_init 49 = .ok (.putfield 27, 3) := by decide +kernel
theorem dX2_init_52 : decode cX2_init 52 = .ok (.aload_n 0, 1) := by decide +kernel
theorem dX2_init_53 : decode cX2_init 53 = .ok (.bipush 16, 2) := by decide +kernel
theorem dX2_init_55 : decode cX2_init 55 = .ok (.newarray .int, 2) := by decide +kernel
theorem dX2_init_57 : decode cX2_init 57 = .ok (.putfield 30, 3) := by decide +kernel
theorem dX2_init_60 : decode cX2_init 60 = .ok (.aload_n 0, 1) := by decide +kernel
theorem dX2_init_61 : decode cX2_init 61 = .ok (.aload_n 1, 1) := by decide +kernel
theorem dX2_init_62 : decode cX2_init 62 = .ok (.putfield 33, 3) := by decide +kernel
theorem dX2_init_65 : decode cX2_init 65 = .ok (.return_, 1) := by decide +kernel
theorem dX5_init_0 : decode cX5_init 0 = .ok (.aload_n 0, 1) := by decide +kernel
theorem dX5_init_1 : decode cX5_init 1 = .ok (.invokespecial 3, 3) := by decide +kernel
theorem dX5_init_4 : decode cX5_init 4 = .ok (.aload_n 0, 1) := by decide +kernel
theorem dX5_init_5 : decode cX5_init 5 = .ok (.iconst 5, 1) := by decide +kernel
theorem dX5_init_6 : decode cX5_init 6 = .ok (.newarray .int, 2) := by decide +kernel
theorem dX5_init_8 : decode cX5_init 8 = .ok (.putfield 9, 3) := by decide +kernel
theorem dX5_init_11 : decode cX5_init 11 = .ok (.aload_n 0, 1) := by decide +kernel
theorem dX5_init_12 : decode cX5_init 12 = .ok (.iconst 5, 1) := by decide +kernel
theorem dX5_init_13 : decode cX5_init 13 = .ok (.newarray .int, 2) := by decide +kernel
theorem dX5_init_15 : decode cX5_init 15 = .ok (.putfield 15, 3) := by decide +kernel
theorem dX5_init_18 : decode cX5_init 18 = .ok (.aload_n 0, 1) := by decide +kernel
theorem dX5_init_19 : decode cX5_init 19 = .ok (.iconst 5, 1) := by decide +kernel
theorem dX5_init_20 : decode cX5_init 20 = .ok (.newarray .int, 2) := by decide +kernel
theorem dX5_init_22 : decode cX5_init 22 = .ok (.putfield 18, 3) := by decide +kernel
theorem dX5_init_25 : decode cX5_init 25 = .ok (.aload_n 0, 1) := by decide +kernel
theorem dX5_init_26 : decode cX5_init 26 = .ok (.iconst 5, 1) := by decide +kernel
theorem dX5_init_27 : decode cX5_init 27 = .ok (.newarray .int, 2) := by decide +kernel
theorem dX5_init_29 : decode cX5_init 29 = .ok (.putfield 21, 3) := by decide +kernel
theorem dX5_init_32 : decode cX5_init 32 = .ok (.return_, 1) := by decide +kernel
theorem dX6_addPlace_0 : decode cX6_addPlace 0 = .ok (.aload_n 0, 1) := by decide +kernel
theorem dX6_addPlace_1 : decode cX6_addPlace 1 = .ok (.getfield 31, 3) := by decide +kernel
theorem dX6_addPlace_4 : decode cX6_addPlace 4 = .ok (.bipush 6, 2) := by decide +kernel
theorem dX6_addPlace_6 : decode cX6_addPlace 6 = .ok (.if_icmp .lt 5, 3) := by decide +kernel
theorem dX6_addPlace_11 : decode cX6_addPlace 11 = .ok (.aload_n 0, 1) := by decide +kernel
theorem dX6_addPlace_12 : decode cX6_addPlace 12 = .ok (.getfield 11, 3) := by decide +kernel
theorem dX6_addPlace_15 : decode cX6_addPlace 15 = .ok (.aload_n 0, 1) := by decide +kernel
theorem dX6_addPlace_16 : decode cX6_addPlace 16 = .ok (.getfield 31, 3) := by decide +kernel
theorem dX6_addPlace_19 : decode cX6_addPlace 19 = .ok (.new 9, 3) := by decide +kernel
theorem dX6_addPlace_22 : decode cX6_addPlace 22 = .ok (.dup, 1) := by decide +kernel
theorem dX6_addPlace_23 : decode cX6_addPlace 23 = .ok (.iload_n 1, 1) := by decide +kernel
theorem dX6_addPlace_24 : decode cX6_addPlace 24 = .ok (.iload_n 2, 1) := by decide +kernel
theorem dX6_addPlace_25 : decode cX6_addPlace 25 = .ok (.iload_n 3, 1) := by decide +kernel
theorem dX6_addPlace_26 : decode cX6_addPlace 26 = .ok (.iload 4, 2) := by decide +kernel
theorem dX6_addPlace_28 : decode cX6_addPlace 28 = .ok (.invokespecial 35, 3) := by decide +kernel
theorem dX6_addPlace_31 : decode cX6_addPlace 31 = .ok (.aastore, 1) := by decide +kernel
theorem dX6_addPlace_32 : decode cX6_addPlace 32 = .ok (.aload_n 0, 1) := by decide +kernel
theorem dX6_addPlace_33 : decode cX6_addPlace 33 = .ok (.dup, 1) := by decide +kernel
theorem dX6_addPlace_34 : decode cX6_addPlace 34 = .ok (.getfield 31, 3) := by decide +kernel
theorem dX6_addPlace_37 : decode cX6_addPlace 37 = .ok (.iconst 1, 1) := by decide +kernel
theorem dX6_addPlace_38 : decode cX6_addPlace 38 = .ok (.iadd, 1) := by decide +kernel
theorem dX6_addPlace_39 : decode cX6_addPlace 39 = .ok (.putfield 31, 3) := by decide +kernel
theorem dX6_addPlace_42 : decode cX6_addPlace 42 = .ok (.aload_n 0, 1) := by decide +kernel
theorem dX6_addPlace_43 : decode cX6_addPlace 43 = .ok (.getfield 31, 3) := by decide +kernel
theorem dX6_addPlace_46 : decode cX6_addPlace 46 = .ok (.iconst 1, 1) := by decide +kernel
theorem dX6_addPlace_47 : decode cX6_addPlace 47 = .ok (.isub, 1) := by decide +kernel
theorem dX6_addPlace_48 : decode cX6_addPlace 48 = .ok (.ireturn, 1) := by decide +kernel
theorem dX6_init_0 : decode cX6_init 0 = .ok (.aload_n 0, 1) := by decide +kernel
theorem dX6_init_1 : decode cX6_init 1 = .ok (.invokespecial 3, 3) := by decide +kernel
theorem dX6_init_4 : decode cX6_init 4 = .ok (.aload_n 0, 1) := by decide +kernel
theorem dX6_init_5 : decode cX6_init 5 = .ok (.bipush 6, 2) := by decide +kernel
theorem dX6_init_7 : decode cX6_init 7 = .ok (.anewarray 9, 3) := by decide +kernel
theorem dX6_init_10 : decode cX6_init 10 = .ok (.putfield 11, 3) := by decide +kernel
theorem dX6_init_13 : decode cX6_init 13 = .ok (.aload_n 0, 1) := by decide +kernel
theorem dX6_init_14 : decode cX6_init 14 = .ok (.bipush 16, 2) := by decide +kernel
theorem dX6_init_16 : decode cX6_init 16 = .ok (.newarray .int, 2) := by decide +kernel
theorem dX6_init_18 : decode cX6_init 18 = .ok (.putfield 17, 3) := by decide +kernel
theorem dX6_init_21 : decode cX6_init 21 = .ok (.aload_n 0, 1) := by decide +kernel
theorem dX6_init_22 : decode cX6_init 22 = .ok (.bipush 16, 2) := by decide +kernel
theorem dX6_init_24 : decode cX6_init 24 = .ok (.newarray .long, 2) := by decide +kernel
theorem dX6_init_26 : decode cX6_init 26 = .ok (.putfield 21, 3) := by decide +kernel
theorem dX6_init_29 : decode cX6_init 29 = .ok (.aload_n 0, 1) := by decide +kernel
theorem dX6_init_30 : decode cX6_init 30 = .ok (.bipush 48, 2) := by decide +kernel
theorem dX6_init_32 : decode cX6_init 32 = .ok (.anewarray 25, 3) := by decide +kernel
theorem dX6_init_35 : decode cX6_init 35 = .ok (.putfield 27, 3) := by decide +kernel
theorem dX6_init_38 : decode cX6_init 38 = .ok (.return_, 1) := by decide +kernel
theorem dX8_init_0 : decode cX8_init 0 = .ok (.aload_n 0, 1) := by decide +kernel
theorem dX8_init_1 : decode cX8_init 1 = .ok (.invokespecial 3, 3) := by decide +kernel
theorem dX8_init_4 : decode cX8_init 4 = .ok (.aload_n 0, 1) := by decide +kernel
theorem dX8_init_5 : decode cX8_init 5 = .ok (.iload_n 1, 1) := by decide +kernel
theorem dX8_init_6 : decode cX8_init 6 = .ok (.putfield 9, 3) := by decide +kernel
theorem dX8_init_9 : decode cX8_init 9 = .ok (.aload_n 0, 1) := by decide +kernel
theorem dX8_init_10 : decode cX8_init 10 = .ok (.iload_n 2, 1) := by decide +kernel
theorem dX8_init_11 : decode cX8_init 11 = .ok (.putfield 15, 3) := by decide +kernel
theorem dX8_init_14 : decode cX8_init 14 = .ok (.aload_n 0, 1) := by decide +kernel
theorem dX8_init_15 : decode cX8_init 15 = .ok (.iload_n 3, 1) := by decide +kernel
theorem dX8_init_16 : decode cX8_init 16 = .ok (.putfield 18, 3) := by decide +kernel
theorem dX8_init_19 : decode cX8_init 19 = .ok (.aload_n 0, 1) := by decide +kernel
theorem dX8_init_20 : decode cX8_init 20 = .ok (.iload 4, 2) := by decide +kernel
theorem dX8_init_22 : decode cX8_init 22 = .ok (.putfield 21, 3) := by decide +kernel
theorem dX8_init_25 : decode cX8_init 25 = .ok (.aload_n 0, 1) := by decide +kernel
theorem dX8_init_26 : decode cX8_init 26 = .ok (.sipush 600, 3) := by decide +kernel
theorem dX8_init_29 : decode cX8_init 29 = .ok (.newarray .boolean, 2) := by decide +kernel
theorem dX8_init_31 : decode cX8_init 31 = .ok (.putfield 24, 3) := by decide +kernel
theorem dX8_init_34 : decode cX8_init 34 = .ok (.iconst 0, 1) := by decide +kernel
theorem dX8_init_35 : decode cX8_init 35 = .ok (.istore 5, 2) := by decide +kernel
theorem dX8_init_37 : decode cX8_init 37 = .ok (.iload 5, 2) := by decide +kernel
theorem dX8_init_39 : decode cX8_init 39 = .ok (.aload_n 0, 1) := by decide +kernel
theorem dX8_init_40 : decode cX8_init 40 = .ok (.getfield 24, 3) := by decide +kernel
theorem dX8_init_43 : decode cX8_init 43 = .ok (.arraylength, 1) := by decide +kernel
theorem dX8_init_44 : decode cX8_init 44 = .ok (.if_icmp .ge 42, 3) := by decide +kernel
theorem dX8_init_47 : decode cX8_init 47 = .ok (.iload 5, 2) := by decide +kernel
theorem dX8_init_49 : decode cX8_init 49 = .ok (.iconst (-1), 1) := by decide +kernel
theorem dX8_init_50 : decode cX8_init 50 = .ok (.iadd, 1) := by decide +kernel
theorem dX8_init_51 : decode cX8_init 51 = .ok (.bipush 7, 2) := by decide +kernel
theorem dX8_init_53 : decode cX8_init 53 = .ok (.iadd, 1) := by decide +kernel
theorem dX8_init_54 : decode cX8_init 54 = .ok (.bipush 7, 2) := by decide +kernel
theorem dX8_init_56 : decode cX8_init 56 = .ok (.irem, 1) := by decide +kernel
theorem dX8_init_57 : decode cX8_init 57 = .ok (.istore 6, 2) := by decide +kernel
theorem dX8_init_59 : decode cX8_init 59 = .ok (.aload_n 0, 1) := by decide +kernel
theorem dX8_init_60 : decode cX8_init 60 = .ok (.getfield 24, 3) := by decide +kernel
theorem dX8_init_63 : decode cX8_init 63 = .ok (.iload 5, 2) := by decide +kernel
theorem dX8_init_65 : decode cX8_init 65 = .ok (.iload_n 2, 1) := by decide +kernel
theorem dX8_init_66 : decode cX8_init 66 = .ok (.iload 6, 2) := by decide +kernel
theorem dX8_init_68 : decode cX8_init 68 = .ok (.ishr, 1) := by decide +kernel
theorem dX8_init_69 : decode cX8_init 69 = .ok (.iconst 1, 1) := by decide +kernel
theorem dX8_init_70 : decode cX8_init 70 = .ok (.iand, 1) := by decide +kernel
theorem dX8_init_71 : decode cX8_init 71 = .ok (.ifCond .ne 7, 3) := by decide +kernel
theorem dX8_init_74 : decode cX8_init 74 = .ok (.iconst 1, 1) := by decide +kernel
theorem dX8_init_75 : decode cX8_init 75 = .ok (.goto 4, 3) := by decide +kernel
theorem dX8_init_78 : decode cX8_init 78 = .ok (.iconst 0, 1) := by decide +kernel
theorem dX8_init_79 : decode cX8_init 79 = .ok (.bastore, 1) := by decide +kernel
theorem dX8_init_80 : decode cX8_init 80 = .ok (.iinc 5 1, 3) := by decide +kernel
theorem dX8_init_83 : decode cX8_init 83 = .ok (.goto (-46), 3) := by decide +kernel
theorem dX8_init_86 : decode cX8_init 86 = .ok (.return_, 1) := by decide +kernel
theorem dX9_init_0 : decode cX9_init 0 = .ok (.aload_n 0, 1) := by decide +kernel
theorem dX9_init_1 : decode cX9_init 1 = .ok (.invokespecial 3, 3) := by decide +kernel
theorem dX9_init_4 : decode cX9_init 4 = .ok (.aload_n 0, 1) := by decide +kernel
theorem dX9_init_5 : decode cX9_init 5 = .ok (.bipush 48, 2) := by decide +kernel
theorem dX9_init_7 : decode cX9_init 7 = .ok (.newarray .int, 2) := by decide +kernel
theorem dX9_init_9 : decode cX9_init 9 = .ok (.putfield 9, 3) := by decide +kernel
theorem dX9_init_12 : decode cX9_init 12 = .ok (.aload_n 0, 1) := by decide +kernel
theorem dX9_init_13 : decode cX9_init 13 = .ok (.bipush 48, 2) := by decide +kernel
theorem dX9_init_15 : decode cX9_init 15 = .ok (.newarray .int, 2) := by decide +kernel
theorem dX9_init_17 : decode cX9_init 17 = .ok (.putfield 15, 3) := by decide +kernel
theorem dX9_init_20 : decode cX9_init 20 = .ok (.aload_n 0, 1) := by decide +kernel
theorem dX9_init_21 : decode cX9_init 21 = .ok (.bipush 48, 2) := by decide +kernel
theorem dX9_init_23 : decode cX9_init 23 = .ok (.newarray .int, 2) := by decide +kernel
theorem dX9_init_25 : decode cX9_init 25 = .ok (.putfield 18, 3) := by decide +kernel
theorem dX9_init_28 : decode cX9_init 28 = .ok (.aload_n 0, 1) := by decide +kernel
theorem dX9_init_29 : decode cX9_init 29 = .ok (.bipush 48, 2) := by decide +kernel
theorem dX9_init_31 : decode cX9_init 31 = .ok (.newarray .int, 2) := by decide +kernel
theorem dX9_init_33 : decode cX9_init 33 = .ok (.putfield 21, 3) := by decide +kernel
theorem dX9_init_36 : decode cX9_init 36 = .ok (.aload_n 0, 1) := by decide +kernel
theorem dX9_init_37 : decode cX9_init 37 = .ok (.aload_n 1, 1) := by decide +kernel
theorem dX9_init_38 : decode cX9_init 38 = .ok (.putfield 24, 3) := by decide +kernel
theorem dX9_init_41 : decode cX9_init 41 = .ok (.return_, 1) := by decide +kernel
