theorem dL_account_0 : decode cL_account 0 = .ok (.aload 6, 2) := by decide +kernel
theorem dL_account_2 : decode cL_account 2 = .ok (.iconst 0, 1) := by decide +kernel
theorem dL_account_3 : decode cL_account 3 = .ok (.aload_n 0, 1) := by decide +kernel
theorem dL_account_4 : decode cL_account 4 = .ok (.iload_n 1, 1) := by decide +kernel
theorem dL_account_5 : decode cL_account 5 = .ok (.iload_n 2, 1) := by decide +kernel
theorem dL_account_6 : decode cL_account 6 = .ok (.iload_n 3, 1) := by decide +kernel
theorem dL_account_7 : decode cL_account 7 = .ok (.iload 4, 2) := by decide +kernel
theorem dL_account_9 : decode cL_account 9 = .ok (.iload 5, 2) := by decide +kernel
theorem dL_account_11 : decode cL_account 11 = .ok (.invokevirtual 25, 3) := by decide +kernel
theorem dL_account_19 : decode cL_account 19 = .ok (.astore 7, 2) := by decide +kernel
theorem dL_account_21 : decode cL_account 21 = .ok (.iconst 1, 1) := by decide +kernel
theorem dL_account_22 : decode cL_account 22 = .ok (.ireturn, 1) := by decide +kernel
theorem dL_accountOf_0 : decode cL_accountOf 0 = .ok (.aload_n 3, 1) := by decide +kernel
theorem dL_accountOf_1 : decode cL_accountOf 1 = .ok (.iconst 0, 1) := by decide +kernel
theorem dL_accountOf_2 : decode cL_accountOf 2 = .ok (.aload_n 0, 1) := by decide +kernel
theorem dL_accountOf_3 : decode cL_accountOf 3 = .ok (.iload_n 1, 1) := by decide +kernel
theorem dL_accountOf_4 : decode cL_accountOf 4 = .ok (.iload_n 2, 1) := by decide +kernel
theorem dL_accountOf_5 : decode cL_accountOf 5 = .ok (.invokevirtual 73, 3) := by decide +kernel
theorem dL_accountOf_13 : decode cL_accountOf 13 = .ok (.astore 4, 2) := by decide +kernel
theorem dL_accountOf_15 : decode cL_accountOf 15 = .ok (.iconst 1, 1) := by decide +kernel
theorem dL_accountOf_16 : decode cL_accountOf 16 = .ok (.ireturn, 1) := by decide +kernel
theorem dL_after_0 : decode cL_after 0 = .ok (.aload 4, 2) := by decide +kernel
theorem dL_after_2 : decode cL_after 2 = .ok (.iconst 0, 1) := by decide +kernel
theorem dL_after_3 : decode cL_after 3 = .ok (.aload_n 0, 1) := by decide +kernel
theorem dL_after_4 : decode cL_after 4 = .ok (.iload_n 1, 1) := by decide +kernel
theorem dL_after_5 : decode cL_after 5 = .ok (.iload_n 2, 1) := by decide +kernel
theorem dL_after_6 : decode cL_after 6 = .ok (.iload_n 3, 1) := by decide +kernel
theorem dL_after_7 : decode cL_after 7 = .ok (.invokevirtual 95, 3) := by decide +kernel
theorem dL_after_15 : decode cL_after 15 = .ok (.astore 5, 2) := by decide +kernel
theorem dL_after_17 : decode cL_after 17 = .ok (.iconst 1, 1) := by decide +kernel
theorem dL_after_18 : decode cL_after 18 = .ok (.ireturn, 1) := by decide +kernel
theorem dL_arrives_0 : decode cL_arrives 0 = .ok (.aload 4, 2) := by decide +kernel
theorem dL_arrives_2 : decode cL_arrives 2 = .ok (.iconst 0, 1) := by decide +kernel
theorem dL_arrives_3 : decode cL_arrives 3 = .ok (.aload_n 0, 1) := by decide +kernel
theorem dL_arrives_4 : decode cL_arrives 4 = .ok (.iload_n 1, 1) := by decide +kernel
theorem dL_arrives_5 : decode cL_arrives 5 = .ok (.iload_n 2, 1) := by decide +kernel
theorem dL_arrives_6 : decode cL_arrives 6 = .ok (.iload_n 3, 1) := by decide +kernel
theorem dL_arrives_7 : decode cL_arrives 7 = .ok (.invokevirtual 126, 3) := by decide +kernel
theorem dL_arrives_15 : decode cL_arrives 15 = .ok (.astore 5, 2) := by decide +kernel
theorem dL_arrives_17 : decode cL_arrives 17 = .ok (.iconst 1, 1) := by decide +kernel
theorem dL_arrives_18 : decode cL_arrives 18 = .ok (.ireturn, 1) := by decide +kernel
theorem dL_ask_0 : decode cL_ask 0 = .ok (.aload 5, 2) := by decide +kernel
theorem dL_ask_2 : decode cL_ask 2 = .ok (.iconst 0, 1) := by decide +kernel
theorem dL_ask_3 : decode cL_ask 3 = .ok (.aload_n 0, 1) := by decide +kernel
theorem dL_ask_4 : decode cL_ask 4 = .ok (.iload_n 1, 1) := by decide +kernel
theorem dL_ask_5 : decode cL_ask 5 = .ok (.iload_n 2, 1) := by decide +kernel
theorem dL_ask_6 : decode cL_ask 6 = .ok (.iload_n 3, 1) := by decide +kernel
theorem dL_ask_7 : decode cL_ask 7 = .ok (.iload 4, 2) := by decide +kernel
theorem dL_ask_9 : decode cL_ask 9 = .ok (.invokevirtual 49, 3) := by decide +kernel
theorem dL_ask_17 : decode cL_ask 17 = .ok (.astore 6, 2) := by decide +kernel
theorem dL_ask_19 : decode cL_ask 19 = .ok (.iconst 1, 1) := by decide +kernel
theorem dL_ask_20 : decode cL_ask 20 = .ok (.ireturn, 1) := by decide +kernel
theorem dL_bank_0 : decode cL_bank 0 = .ok (.aload_n 2, 1) := by decide +kernel
theorem dL_bank_1 : decode cL_bank 1 = .ok (.iconst 0, 1) := by decide +kernel
theorem dL_bank_2 : decode cL_bank 2 = .ok (.aload_n 0, 1) := by decide +kernel
theorem dL_bank_3 : decode cL_bank 3 = .ok (.iload_n 1, 1) := by decide +kernel
theorem dL_bank_4 : decode cL_bank 4 = .ok (.invokevirtual 21, 3) := by decide +kernel
theorem dL_bank_12 : decode cL_bank 12 = .ok (.astore_n 3, 1) := by decide +kernel
theorem dL_bank_13 : decode cL_bank 13 = .ok (.iconst 1, 1) := by decide +kernel
theorem dL_bank_14 : decode cL_bank 14 = .ok (.ireturn, 1) := by decide +kernel
theorem dL_bankOf_0 : decode cL_bankOf 0 = .ok (.aload_n 3, 1) := by decide +kernel
theorem dL_bankOf_1 : decode cL_bankOf 1 = .ok (.iconst 0, 1) := by decide +kernel
theorem dL_bankOf_2 : decode cL_bankOf 2 = .ok (.aload_n 0, 1) := by decide +kernel
theorem dL_bankOf_3 : decode cL_bankOf 3 = .ok (.iload_n 1, 1) := by decide +kernel
theorem dL_bankOf_4 : decode cL_bankOf 4 = .ok (.iload_n 2, 1) := by decide +kernel
theorem dL_bankOf_5 : decode cL_bankOf 5 = .ok (.invokevirtual 153, 3) := by decide +kernel
theorem dL_bankOf_12 : decode cL_bankOf 12 = .ok (.astore 4, 2) := by decide +kernel
theorem dL_bankOf_14 : decode cL_bankOf 14 = .ok (.iconst 1, 1) := by decide +kernel
theorem dL_bankOf_15 : decode cL_bankOf 15 = .ok (.ireturn, 1) := by decide +kernel
theorem dL_bars_0 : decode cL_bars 0 = .ok (.aload_n 2, 1) := by decide +kernel
theorem dL_bars_1 : decode cL_bars 1 = .ok (.iconst 0, 1) := by decide +kernel
theorem dL_bars_2 : decode cL_bars 2 = .ok (.aload_n 0, 1) := by decide +kernel
theorem dL_bars_3 : decode cL_bars 3 = .ok (.iload_n 1, 1) := by decide +kernel
theorem dL_bars_4 : decode cL_bars 4 = .ok (.invokevirtual 141, 3) := by decide +kernel
theorem dL_bars_12 : decode cL_bars 12 = .ok (.astore_n 3, 1) := by decide +kernel
theorem dL_bars_13 : decode cL_bars 13 = .ok (.iconst 1, 1) := by decide +kernel
theorem dL_bars_14 : decode cL_bars 14 = .ok (.ireturn, 1) := by decide +kernel
theorem dL_busiest_0 : decode cL_busiest 0 = .ok (.aload_n 3, 1) := by decide +kernel
theorem dL_busiest_1 : decode cL_busiest 1 = .ok (.iconst 0, 1) := by decide +kernel
theorem dL_busiest_2 : decode cL_busiest 2 = .ok (.aload_n 0, 1) := by decide +kernel
theorem dL_busiest_3 : decode cL_busiest 3 = .ok (.iload_n 1, 1) := by decide +kernel
theorem dL_busiest_4 : decode cL_busiest 4 = .ok (.iload_n 2, 1) := by decide +kernel
theorem dL_busiest_5 : decode cL_busiest 5 = .ok (.invokevirtual 104, 3) := by decide +kernel
theorem dL_busiest_13 : decode cL_busiest 13 = .ok (.astore 4, 2) := by decide +kernel
theorem dL_busiest_15 : decode cL_busiest 15 = .ok (.iconst 1, 1) := by decide +kernel
theorem dL_busiest_16 : decode cL_busiest 16 = .ok (.ireturn, 1) := by decide +kernel
theorem dL_cheapest_0 : decode cL_cheapest 0 = .ok (.aload_n 2, 1) := by decide +kernel
theorem dL_cheapest_1 : decode cL_cheapest 1 = .ok (.iconst 0, 1) := by decide +kernel
theorem dL_cheapest_2 : decode cL_cheapest 2 = .ok (.aload_n 0, 1) := by decide +kernel
theorem dL_cheapest_3 : decode cL_cheapest 3 = .ok (.iload_n 1, 1) := by decide +kernel
theorem dL_cheapest_4 : decode cL_cheapest 4 = .ok (.invokevirtual 132, 3) := by decide +kernel
theorem dL_cheapest_12 : decode cL_cheapest 12 = .ok (.astore_n 3, 1) := by decide +kernel
theorem dL_cheapest_13 : decode cL_cheapest 13 = .ok (.iconst 1, 1) := by decide +kernel
theorem dL_cheapest_14 : decode cL_cheapest 14 = .ok (.ireturn, 1) := by decide +kernel
theorem dL_days_0 : decode cL_days 0 = .ok (.aload 4, 2) := by decide +kernel
theorem dL_days_2 : decode cL_days 2 = .ok (.iconst 0, 1) := by decide +kernel
theorem dL_days_3 : decode cL_days 3 = .ok (.aload_n 0, 1) := by decide +kernel
theorem dL_days_4 : decode cL_days 4 = .ok (.iload_n 1, 1) := by decide +kernel
theorem dL_days_5 : decode cL_days 5 = .ok (.iload_n 2, 1) := by decide +kernel
theorem dL_days_6 : decode cL_days 6 = .ok (.iload_n 3, 1) := by decide +kernel
theorem dL_days_7 : decode cL_days 7 = .ok (.invokevirtual 163, 3) := by decide +kernel
theorem dL_days_15 : decode cL_days 15 = .ok (.astore 5, 2) := by decide +kernel
theorem dL_days_17 : decode cL_days 17 = .ok (.iconst 1, 1) := by decide +kernel
theorem dL_days_18 : decode cL_days 18 = .ok (.ireturn, 1) := by decide +kernel
theorem dL_delay_0 : decode cL_delay 0 = .ok (.aload_n 2, 1) := by decide +kernel
theorem dL_delay_1 : decode cL_delay 1 = .ok (.iconst 0, 1) := by decide +kernel
theorem dL_delay_2 : decode cL_delay 2 = .ok (.aload_n 0, 1) := by decide +kernel
theorem dL_delay_3 : decode cL_delay 3 = .ok (.iload_n 1, 1) := by decide +kernel
theorem dL_delay_4 : decode cL_delay 4 = .ok (.invokevirtual 150, 3) := by decide +kernel
theorem dL_delay_12 : decode cL_delay 12 = .ok (.astore_n 3, 1) := by decide +kernel
theorem dL_delay_13 : decode cL_delay 13 = .ok (.iconst 1, 1) := by decide +kernel
theorem dL_delay_14 : decode cL_delay 14 = .ok (.ireturn, 1) := by decide +kernel
theorem dL_draw_0 : decode cL_draw 0 = .ok (.aload_n 3, 1) := by decide +kernel
theorem dL_draw_1 : decode cL_draw 1 = .ok (.iconst 0, 1) := by decide +kernel
theorem dL_draw_2 : decode cL_draw 2 = .ok (.aload_n 0, 1) := by decide +kernel
theorem dL_draw_3 : decode cL_draw 3 = .ok (.iload_n 1, 1) := by decide +kernel
theorem dL_draw_4 : decode cL_draw 4 = .ok (.iload_n 2, 1) := by decide +kernel
theorem dL_draw_5 : decode cL_draw 5 = .ok (.invokevirtual 39, 3) := by decide +kernel
theorem dL_draw_13 : decode cL_draw 13 = .ok (.astore 4, 2) := by decide +kernel
theorem dL_draw_15 : decode cL_draw 15 = .ok (.iconst 1, 1) := by decide +kernel
theorem dL_draw_16 : decode cL_draw 16 = .ok (.ireturn, 1) := by decide +kernel
theorem dL_due_0 : decode cL_due 0 = .ok (.aload_n 3, 1) := by decide +kernel
theorem dL_due_1 : decode cL_due 1 = .ok (.iconst 0, 1) := by decide +kernel
theorem dL_due_2 : decode cL_due 2 = .ok (.aload_n 0, 1) := by decide +kernel
theorem dL_due_3 : decode cL_due 3 = .ok (.iload_n 1, 1) := by decide +kernel
theorem dL_due_4 : decode cL_due 4 = .ok (.iload_n 2, 1) := by decide +kernel
theorem dL_due_5 : decode cL_due 5 = .ok (.invokevirtual 169, 3) := by decide +kernel
theorem dL_due_12 : decode cL_due 12 = .ok (.astore 4, 2) := by decide +kernel
theorem dL_due_14 : decode cL_due 14 = .ok (.iconst 1, 1) := by decide +kernel
theorem dL_due_15 : decode cL_due 15 = .ok (.ireturn, 1) := by decide +kernel
theorem dL_fee_0 : decode cL_fee 0 = .ok (.aload_n 3, 1) := by decide +kernel
theorem dL_fee_1 : decode cL_fee 1 = .ok (.iconst 0, 1) := by decide +kernel
theorem dL_fee_2 : decode cL_fee 2 = .ok (.aload_n 0, 1) := by decide +kernel
theorem dL_fee_3 : decode cL_fee 3 = .ok (.iload_n 1, 1) := by decide +kernel
theorem dL_fee_4 : decode cL_fee 4 = .ok (.iload_n 2, 1) := by decide +kernel
theorem dL_fee_5 : decode cL_fee 5 = .ok (.invokevirtual 85, 3) := by decide +kernel
theorem dL_fee_13 : decode cL_fee 13 = .ok (.astore 4, 2) := by decide +kernel
theorem dL_fee_15 : decode cL_fee 15 = .ok (.iconst 1, 1) := by decide +kernel
theorem dL_fee_16 : decode cL_fee 16 = .ok (.ireturn, 1) := by decide +kernel
theorem dL_fewest_0 : decode cL_fewest 0 = .ok (.aload_n 2, 1) := by decide +kernel
theorem dL_fewest_1 : decode cL_fewest 1 = .ok (.iconst 0, 1) := by decide +kernel
theorem dL_fewest_2 : decode cL_fewest 2 = .ok (.aload_n 0, 1) := by decide +kernel
theorem dL_fewest_3 : decode cL_fewest 3 = .ok (.iload_n 1, 1) := by decide +kernel
theorem dL_fewest_4 : decode cL_fewest 4 = .ok (.invokevirtual 147, 3) := by decide +kernel
theorem dL_fewest_12 : decode cL_fewest 12 = .ok (.astore_n 3, 1) := by decide +kernel
theorem dL_fewest_13 : decode cL_fewest 13 = .ok (.iconst 1, 1) := by decide +kernel
theorem dL_fewest_14 : decode cL_fewest 14 = .ok (.ireturn, 1) := by decide +kernel
theorem dL_forecast_0 : decode cL_forecast 0 = .ok (.aload_n 3, 1) := by decide +kernel
theorem dL_forecast_1 : decode cL_forecast 1 = .ok (.iconst 0, 1) := by decide +kernel
theorem dL_forecast_2 : decode cL_forecast 2 = .ok (.aload_n 0, 1) := by decide +kernel
theorem dL_forecast_3 : decode cL_forecast 3 = .ok (.iload_n 1, 1) := by decide +kernel
theorem dL_forecast_4 : decode cL_forecast 4 = .ok (.iload_n 2, 1) := by decide +kernel
theorem dL_forecast_5 : decode cL_forecast 5 = .ok (.invokevirtual 114, 3) := by decide +kernel
theorem dL_forecast_13 : decode cL_forecast 13 = .ok (.astore 4, 2) := by decide +kernel
theorem dL_forecast_15 : decode cL_forecast 15 = .ok (.iconst 1, 1) := by decide +kernel
theorem dL_forecast_16 : decode cL_forecast 16 = .ok (.ireturn, 1) := by decide +kernel
theorem dL_fund_0 : decode cL_fund 0 = .ok (.aload_n 3, 1) := by decide +kernel
theorem dL_fund_1 : decode cL_fund 1 = .ok (.iconst 0, 1) := by decide +kernel
theorem dL_fund_2 : decode cL_fund 2 = .ok (.aload_n 0, 1) := by decide +kernel
theorem dL_fund_3 : decode cL_fund 3 = .ok (.iload_n 1, 1) := by decide +kernel
theorem dL_fund_4 : decode cL_fund 4 = .ok (.iload_n 2, 1) := by decide +kernel
theorem dL_fund_5 : decode cL_fund 5 = .ok (.invokevirtual 36, 3) := by decide +kernel
theorem dL_fund_13 : decode cL_fund 13 = .ok (.astore 4, 2) := by decide +kernel
theorem dL_fund_15 : decode cL_fund 15 = .ok (.iconst 1, 1) := by decide +kernel
theorem dL_fund_16 : decode cL_fund 16 = .ok (.ireturn, 1) := by decide +kernel
theorem dL_holiday_0 : decode cL_holiday 0 = .ok (.aload_n 3, 1) := by decide +kernel
theorem dL_holiday_1 : decode cL_holiday 1 = .ok (.iconst 0, 1) := by decide +kernel
theorem dL_holiday_2 : decode cL_holiday 2 = .ok (.aload_n 0, 1) := by decide +kernel
theorem dL_holiday_3 : decode cL_holiday 3 = .ok (.iload_n 1, 1) := by decide +kernel
theorem dL_holiday_4 : decode cL_holiday 4 = .ok (.iload_n 2, 1) := by decide +kernel
theorem dL_holiday_5 : decode cL_holiday 5 = .ok (.invokevirtual 15, 3) := by decide +kernel
theorem dL_holiday_13 : decode cL_holiday 13 = .ok (.astore 4, 2) := by decide +kernel
theorem dL_holiday_15 : decode cL_holiday 15 = .ok (.iconst 1, 1) := by decide +kernel
theorem dL_holiday_16 : decode cL_holiday 16 = .ok (.ireturn, 1) := by decide +kernel
theorem dL_hours_0 : decode cL_hours 0 = .ok (.aload_n 3, 1) := by decide +kernel
theorem dL_hours_1 : decode cL_hours 1 = .ok (.iconst 0, 1) := by decide +kernel
theorem dL_hours_2 : decode cL_hours 2 = .ok (.aload_n 0, 1) := by decide +kernel
theorem dL_hours_3 : decode cL_hours 3 = .ok (.iload_n 1, 1) := by decide +kernel
theorem dL_hours_4 : decode cL_hours 4 = .ok (.iload_n 2, 1) := by decide +kernel
theorem dL_hours_5 : decode cL_hours 5 = .ok (.invokevirtual 101, 3) := by decide +kernel
theorem dL_hours_13 : decode cL_hours 13 = .ok (.astore 4, 2) := by decide +kernel
theorem dL_hours_15 : decode cL_hours 15 = .ok (.iconst 1, 1) := by decide +kernel
theorem dL_hours_16 : decode cL_hours 16 = .ok (.ireturn, 1) := by decide +kernel
theorem dL_idle_0 : decode cL_idle 0 = .ok (.aload_n 3, 1) := by decide +kernel
theorem dL_idle_1 : decode cL_idle 1 = .ok (.iconst 0, 1) := by decide +kernel
theorem dL_idle_2 : decode cL_idle 2 = .ok (.aload_n 0, 1) := by decide +kernel
theorem dL_idle_3 : decode cL_idle 3 = .ok (.iload_n 1, 1) := by decide +kernel
theorem dL_idle_4 : decode cL_idle 4 = .ok (.iload_n 2, 1) := by decide +kernel
theorem dL_idle_5 : decode cL_idle 5 = .ok (.invokevirtual 98, 3) := by decide +kernel
theorem dL_idle_13 : decode cL_idle 13 = .ok (.astore 4, 2) := by decide +kernel
theorem dL_idle_15 : decode cL_idle 15 = .ok (.iconst 1, 1) := by decide +kernel
theorem dL_idle_16 : decode cL_idle 16 = .ok (.ireturn, 1) := by decide +kernel
theorem dL_late_0 : decode cL_late 0 = .ok (.aload_n 2, 1) := by decide +kernel
theorem dL_late_1 : decode cL_late 1 = .ok (.iconst 0, 1) := by decide +kernel
theorem dL_late_2 : decode cL_late 2 = .ok (.aload_n 0, 1) := by decide +kernel
theorem dL_late_3 : decode cL_late 3 = .ok (.iload_n 1, 1) := by decide +kernel
theorem dL_late_4 : decode cL_late 4 = .ok (.invokevirtual 120, 3) := by decide +kernel
theorem dL_late_12 : decode cL_late 12 = .ok (.astore_n 3, 1) := by decide +kernel
theorem dL_late_13 : decode cL_late 13 = .ok (.iconst 1, 1) := by decide +kernel
theorem dL_late_14 : decode cL_late 14 = .ok (.ireturn, 1) := by decide +kernel
theorem dL_latest_0 : decode cL_latest 0 = .ok (.aload_n 2, 1) := by decide +kernel
theorem dL_latest_1 : decode cL_latest 1 = .ok (.iconst 0, 1) := by decide +kernel
theorem dL_latest_2 : decode cL_latest 2 = .ok (.aload_n 0, 1) := by decide +kernel
theorem dL_latest_3 : decode cL_latest 3 = .ok (.iload_n 1, 1) := by decide +kernel
theorem dL_latest_4 : decode cL_latest 4 = .ok (.invokevirtual 135, 3) := by decide +kernel
theorem dL_latest_12 : decode cL_latest 12 = .ok (.astore_n 3, 1) := by decide +kernel
theorem dL_latest_13 : decode cL_latest 13 = .ok (.iconst 1, 1) := by decide +kernel
theorem dL_latest_14 : decode cL_latest 14 = .ok (.ireturn, 1) := by decide +kernel
theorem dL_leaves_0 : decode cL_leaves 0 = .ok (.aload 4, 2) := by decide +kernel
theorem dL_leaves_2 : decode cL_leaves 2 = .ok (.iconst 0, 1) := by decide +kernel
theorem dL_leaves_3 : decode cL_leaves 3 = .ok (.aload_n 0, 1) := by decide +kernel
theorem dL_leaves_4 : decode cL_leaves 4 = .ok (.iload_n 1, 1) := by decide +kernel
theorem dL_leaves_5 : decode cL_leaves 5 = .ok (.iload_n 2, 1) := by decide +kernel
theorem dL_leaves_6 : decode cL_leaves 6 = .ok (.iload_n 3, 1) := by decide +kernel
theorem dL_leaves_7 : decode cL_leaves 7 = .ok (.invokevirtual 123, 3) := by decide +kernel
theorem dL_leaves_15 : decode cL_leaves 15 = .ok (.astore 5, 2) := by decide +kernel
theorem dL_leaves_17 : decode cL_leaves 17 = .ok (.iconst 1, 1) := by decide +kernel
theorem dL_leaves_18 : decode cL_leaves 18 = .ok (.ireturn, 1) := by decide +kernel
theorem dL_leg_0 : decode cL_leg 0 = .ok (.aload 4, 2) := by decide +kernel
theorem dL_leg_2 : decode cL_leg 2 = .ok (.iconst 0, 1) := by decide +kernel
theorem dL_leg_3 : decode cL_leg 3 = .ok (.aload_n 0, 1) := by decide +kernel
theorem dL_leg_4 : decode cL_leg 4 = .ok (.iload_n 1, 1) := by decide +kernel
theorem dL_leg_5 : decode cL_leg 5 = .ok (.iload_n 2, 1) := by decide +kernel
theorem dL_leg_6 : decode cL_leg 6 = .ok (.iload_n 3, 1) := by decide +kernel
theorem dL_leg_7 : decode cL_leg 7 = .ok (.invokevirtual 79, 3) := by decide +kernel
theorem dL_leg_15 : decode cL_leg 15 = .ok (.astore 5, 2) := by decide +kernel
theorem dL_leg_17 : decode cL_leg 17 = .ok (.iconst 1, 1) := by decide +kernel
theorem dL_leg_18 : decode cL_leg 18 = .ok (.ireturn, 1) := by decide +kernel
theorem dL_limits_0 : decode cL_limits 0 = .ok (.aload 4, 2) := by decide +kernel
theorem dL_limits_2 : decode cL_limits 2 = .ok (.iconst 0, 1) := by decide +kernel
theorem dL_limits_3 : decode cL_limits 3 = .ok (.aload_n 0, 1) := by decide +kernel
theorem dL_limits_4 : decode cL_limits 4 = .ok (.iload_n 1, 1) := by decide +kernel
theorem dL_limits_5 : decode cL_limits 5 = .ok (.iload_n 2, 1) := by decide +kernel
theorem dL_limits_6 : decode cL_limits 6 = .ok (.iload_n 3, 1) := by decide +kernel
theorem dL_limits_7 : decode cL_limits 7 = .ok (.invokevirtual 32, 3) := by decide +kernel
theorem dL_limits_15 : decode cL_limits 15 = .ok (.astore 5, 2) := by decide +kernel
theorem dL_limits_17 : decode cL_limits 17 = .ok (.iconst 1, 1) := by decide +kernel
theorem dL_limits_18 : decode cL_limits 18 = .ok (.ireturn, 1) := by decide +kernel
theorem dL_line_0 : decode cL_line 0 = .ok (.aload 4, 2) := by decide +kernel
theorem dL_line_2 : decode cL_line 2 = .ok (.iconst 0, 1) := by decide +kernel
theorem dL_line_3 : decode cL_line 3 = .ok (.aload_n 0, 1) := by decide +kernel
theorem dL_line_4 : decode cL_line 4 = .ok (.iload_n 1, 1) := by decide +kernel
theorem dL_line_5 : decode cL_line 5 = .ok (.iload_n 2, 1) := by decide +kernel
theorem dL_line_6 : decode cL_line 6 = .ok (.iload_n 3, 1) := by decide +kernel
theorem dL_line_7 : decode cL_line 7 = .ok (.invokevirtual 111, 3) := by decide +kernel
theorem dL_line_15 : decode cL_line 15 = .ok (.astore 5, 2) := by decide +kernel
theorem dL_line_17 : decode cL_line 17 = .ok (.iconst 1, 1) := by decide +kernel
theorem dL_line_18 : decode cL_line 18 = .ok (.ireturn, 1) := by decide +kernel
theorem dL_lowest_0 : decode cL_lowest 0 = .ok (.aload_n 3, 1) := by decide +kernel
theorem dL_lowest_1 : decode cL_lowest 1 = .ok (.iconst 0, 1) := by decide +kernel
theorem dL_lowest_2 : decode cL_lowest 2 = .ok (.aload_n 0, 1) := by decide +kernel
theorem dL_lowest_3 : decode cL_lowest 3 = .ok (.iload_n 1, 1) := by decide +kernel
theorem dL_lowest_4 : decode cL_lowest 4 = .ok (.iload_n 2, 1) := by decide +kernel
theorem dL_lowest_5 : decode cL_lowest 5 = .ok (.invokevirtual 117, 3) := by decide +kernel
theorem dL_lowest_13 : decode cL_lowest 13 = .ok (.astore 4, 2) := by decide +kernel
theorem dL_lowest_15 : decode cL_lowest 15 = .ok (.iconst 1, 1) := by decide +kernel
theorem dL_lowest_16 : decode cL_lowest 16 = .ok (.ireturn, 1) := by decide +kernel
theorem dL_most_0 : decode cL_most 0 = .ok (.aload_n 2, 1) := by decide +kernel
theorem dL_most_1 : decode cL_most 1 = .ok (.iconst 0, 1) := by decide +kernel
theorem dL_most_2 : decode cL_most 2 = .ok (.aload_n 0, 1) := by decide +kernel
theorem dL_most_3 : decode cL_most 3 = .ok (.iload_n 1, 1) := by decide +kernel
theorem dL_most_4 : decode cL_most 4 = .ok (.invokevirtual 138, 3) := by decide +kernel
theorem dL_most_12 : decode cL_most 12 = .ok (.astore_n 3, 1) := by decide +kernel
theorem dL_most_13 : decode cL_most 13 = .ok (.iconst 1, 1) := by decide +kernel
theorem dL_most_14 : decode cL_most 14 = .ok (.ireturn, 1) := by decide +kernel
theorem dL_needs_0 : decode cL_needs 0 = .ok (.aload_n 3, 1) := by decide +kernel
theorem dL_needs_1 : decode cL_needs 1 = .ok (.iconst 0, 1) := by decide +kernel
theorem dL_needs_2 : decode cL_needs 2 = .ok (.aload_n 0, 1) := by decide +kernel
theorem dL_needs_3 : decode cL_needs 3 = .ok (.iload_n 1, 1) := by decide +kernel
theorem dL_needs_4 : decode cL_needs 4 = .ok (.iload_n 2, 1) := by decide +kernel
theorem dL_needs_5 : decode cL_needs 5 = .ok (.invokevirtual 172, 3) := by decide +kernel
theorem dL_needs_13 : decode cL_needs 13 = .ok (.astore 4, 2) := by decide +kernel
theorem dL_needs_15 : decode cL_needs 15 = .ok (.iconst 1, 1) := by decide +kernel
theorem dL_needs_16 : decode cL_needs 16 = .ok (.ireturn, 1) := by decide +kernel
theorem dL_next_0 : decode cL_next 0 = .ok (.aload_n 3, 1) := by decide +kernel
theorem dL_next_1 : decode cL_next 1 = .ok (.iconst 0, 1) := by decide +kernel
theorem dL_next_2 : decode cL_next 2 = .ok (.aload_n 0, 1) := by decide +kernel
theorem dL_next_3 : decode cL_next 3 = .ok (.iload_n 1, 1) := by decide +kernel
theorem dL_next_4 : decode cL_next 4 = .ok (.iload_n 2, 1) := by decide +kernel
theorem dL_next_5 : decode cL_next 5 = .ok (.invokevirtual 92, 3) := by decide +kernel
theorem dL_next_13 : decode cL_next 13 = .ok (.astore 4, 2) := by decide +kernel
theorem dL_next_15 : decode cL_next 15 = .ok (.iconst 1, 1) := by decide +kernel
theorem dL_next_16 : decode cL_next 16 = .ok (.ireturn, 1) := by decide +kernel
theorem dL_open_0 : decode cL_open 0 = .ok (.aload_n 3, 1) := by decide +kernel
theorem dL_open_1 : decode cL_open 1 = .ok (.iconst 0, 1) := by decide +kernel
theorem dL_open_2 : decode cL_open 2 = .ok (.aload_n 0, 1) := by decide +kernel
theorem dL_open_3 : decode cL_open 3 = .ok (.iload_n 1, 1) := by decide +kernel
theorem dL_open_4 : decode cL_open 4 = .ok (.iload_n 2, 1) := by decide +kernel
theorem dL_open_5 : decode cL_open 5 = .ok (.invokevirtual 88, 3) := by decide +kernel
theorem dL_open_20 : decode cL_open 20 = .ok (.astore 4, 2) := by decide +kernel
theorem dL_open_22 : decode cL_open 22 = .ok (.iconst 1, 1) := by decide +kernel
theorem dL_open_23 : decode cL_open 23 = .ok (.ireturn, 1) := by decide +kernel
theorem dL_pay_0 : decode cL_pay 0 = .ok (.aload_n 2, 1) := by decide +kernel
theorem dL_pay_1 : decode cL_pay 1 = .ok (.iconst 0, 1) := by decide +kernel
theorem dL_pay_2 : decode cL_pay 2 = .ok (.aload_n 0, 1) := by decide +kernel
theorem dL_pay_3 : decode cL_pay 3 = .ok (.iload_n 1, 1) := by decide +kernel
theorem dL_pay_4 : decode cL_pay 4 = .ok (.invokevirtual 58, 3) := by decide +kernel
theorem dL_pay_12 : decode cL_pay 12 = .ok (.astore_n 3, 1) := by decide +kernel
theorem dL_pay_13 : decode cL_pay 13 = .ok (.iconst 1, 1) := by decide +kernel
theorem dL_pay_14 : decode cL_pay 14 = .ok (.ireturn, 1) := by decide +kernel
theorem dL_payment_0 : decode cL_payment 0 = .ok (.aload_n 3, 1) := by decide +kernel
theorem dL_payment_1 : decode cL_payment 1 = .ok (.iconst 0, 1) := by decide +kernel
theorem dL_payment_2 : decode cL_payment 2 = .ok (.aload_n 0, 1) := by decide +kernel
theorem dL_payment_3 : decode cL_payment 3 = .ok (.iload_n 1, 1) := by decide +kernel
theorem dL_payment_4 : decode cL_payment 4 = .ok (.iload_n 2, 1) := by decide +kernel
theorem dL_payment_5 : decode cL_payment 5 = .ok (.invokevirtual 76, 3) := by decide +kernel
theorem dL_payment_13 : decode cL_payment 13 = .ok (.astore 4, 2) := by decide +kernel
theorem dL_payment_15 : decode cL_payment 15 = .ok (.iconst 1, 1) := by decide +kernel
theorem dL_payment_16 : decode cL_payment 16 = .ok (.ireturn, 1) := by decide +kernel
theorem dL_placeOf_0 : decode cL_placeOf 0 = .ok (.aload_n 3, 1) := by decide +kernel
theorem dL_placeOf_1 : decode cL_placeOf 1 = .ok (.iconst 0, 1) := by decide +kernel
theorem dL_placeOf_2 : decode cL_placeOf 2 = .ok (.aload_n 0, 1) := by decide +kernel
theorem dL_placeOf_3 : decode cL_placeOf 3 = .ok (.iload_n 1, 1) := by decide +kernel
theorem dL_placeOf_4 : decode cL_placeOf 4 = .ok (.iload_n 2, 1) := by decide +kernel
theorem dL_placeOf_5 : decode cL_placeOf 5 = .ok (.invokevirtual 70, 3) := by decide +kernel
theorem dL_placeOf_13 : decode cL_placeOf 13 = .ok (.astore 4, 2) := by decide +kernel
theorem dL_placeOf_15 : decode cL_placeOf 15 = .ok (.iconst 1, 1) := by decide +kernel
theorem dL_placeOf_16 : decode cL_placeOf 16 = .ok (.ireturn, 1) := by decide +kernel
theorem dL_reach_0 : decode cL_reach 0 = .ok (.aload 4, 2) := by decide +kernel
theorem dL_reach_2 : decode cL_reach 2 = .ok (.iconst 0, 1) := by decide +kernel
theorem dL_reach_3 : decode cL_reach 3 = .ok (.aload_n 0, 1) := by decide +kernel
theorem dL_reach_4 : decode cL_reach 4 = .ok (.iload_n 1, 1) := by decide +kernel
theorem dL_reach_5 : decode cL_reach 5 = .ok (.iload_n 2, 1) := by decide +kernel
theorem dL_reach_6 : decode cL_reach 6 = .ok (.iload_n 3, 1) := by decide +kernel
theorem dL_reach_7 : decode cL_reach 7 = .ok (.invokevirtual 129, 3) := by decide +kernel
theorem dL_reach_15 : decode cL_reach 15 = .ok (.astore 5, 2) := by decide +kernel
theorem dL_reach_17 : decode cL_reach 17 = .ok (.iconst 1, 1) := by decide +kernel
theorem dL_reach_18 : decode cL_reach 18 = .ok (.ireturn, 1) := by decide +kernel
theorem dL_refuse_0 : decode cL_refuse 0 = .ok (.aload_n 2, 1) := by decide +kernel
theorem dL_refuse_1 : decode cL_refuse 1 = .ok (.iconst 0, 1) := by decide +kernel
theorem dL_refuse_2 : decode cL_refuse 2 = .ok (.aload_n 0, 1) := by decide +kernel
theorem dL_refuse_3 : decode cL_refuse 3 = .ok (.iload_n 1, 1) := by decide +kernel
theorem dL_refuse_4 : decode cL_refuse 4 = .ok (.invokevirtual 61, 3) := by decide +kernel
theorem dL_refuse_12 : decode cL_refuse 12 = .ok (.astore_n 3, 1) := by decide +kernel
theorem dL_refuse_13 : decode cL_refuse 13 = .ok (.iconst 1, 1) := by decide +kernel
theorem dL_refuse_14 : decode cL_refuse 14 = .ok (.ireturn, 1) := by decide +kernel
theorem dL_reroute_0 : decode cL_reroute 0 = .ok (.aload_n 2, 1) := by decide +kernel
theorem dL_reroute_1 : decode cL_reroute 1 = .ok (.iconst 0, 1) := by decide +kernel
theorem dL_reroute_2 : decode cL_reroute 2 = .ok (.aload_n 0, 1) := by decide +kernel
theorem dL_reroute_3 : decode cL_reroute 3 = .ok (.iload_n 1, 1) := by decide +kernel
theorem dL_reroute_4 : decode cL_reroute 4 = .ok (.invokevirtual 64, 3) := by decide +kernel
theorem dL_reroute_12 : decode cL_reroute 12 = .ok (.astore_n 3, 1) := by decide +kernel
theorem dL_reroute_13 : decode cL_reroute 13 = .ok (.iconst 1, 1) := by decide +kernel
theorem dL_reroute_14 : decode cL_reroute 14 = .ok (.ireturn, 1) := by decide +kernel
theorem dL_route_0 : decode cL_route 0 = .ok (.aload_n 3, 1) := by decide +kernel
theorem dL_route_1 : decode cL_route 1 = .ok (.iconst 0, 1) := by decide +kernel
theorem dL_route_2 : decode cL_route 2 = .ok (.aload_n 0, 1) := by decide +kernel
theorem dL_route_3 : decode cL_route 3 = .ok (.iload_n 1, 1) := by decide +kernel
theorem dL_route_4 : decode cL_route 4 = .ok (.iload_n 2, 1) := by decide +kernel
theorem dL_route_5 : decode cL_route 5 = .ok (.invokevirtual 52, 3) := by decide +kernel
theorem dL_route_13 : decode cL_route 13 = .ok (.astore 4, 2) := by decide +kernel
theorem dL_route_15 : decode cL_route 15 = .ok (.iconst 1, 1) := by decide +kernel
theorem dL_route_16 : decode cL_route 16 = .ok (.ireturn, 1) := by decide +kernel
theorem dL_shared_0 : decode cL_shared 0 = .ok (.aload_n 3, 1) := by decide +kernel
theorem dL_shared_1 : decode cL_shared 1 = .ok (.iconst 0, 1) := by decide +kernel
theorem dL_shared_2 : decode cL_shared 2 = .ok (.aload_n 0, 1) := by decide +kernel
theorem dL_shared_3 : decode cL_shared 3 = .ok (.iload_n 1, 1) := by decide +kernel
theorem dL_shared_4 : decode cL_shared 4 = .ok (.iload_n 2, 1) := by decide +kernel
theorem dL_shared_5 : decode cL_shared 5 = .ok (.invokevirtual 157, 3) := by decide +kernel
theorem dL_shared_12 : decode cL_shared 12 = .ok (.astore 4, 2) := by decide +kernel
theorem dL_shared_14 : decode cL_shared 14 = .ok (.iconst 1, 1) := by decide +kernel
theorem dL_shared_15 : decode cL_shared 15 = .ok (.ireturn, 1) := by decide +kernel
theorem dL_shut_0 : decode cL_shut 0 = .ok (.aload_n 3, 1) := by decide +kernel
theorem dL_shut_1 : decode cL_shut 1 = .ok (.iconst 0, 1) := by decide +kernel
theorem dL_shut_2 : decode cL_shut 2 = .ok (.aload_n 0, 1) := by decide +kernel
theorem dL_shut_3 : decode cL_shut 3 = .ok (.iload_n 1, 1) := by decide +kernel
theorem dL_shut_4 : decode cL_shut 4 = .ok (.iload_n 2, 1) := by decide +kernel
theorem dL_shut_5 : decode cL_shut 5 = .ok (.invokevirtual 42, 3) := by decide +kernel
theorem dL_shut_20 : decode cL_shut 20 = .ok (.astore 4, 2) := by decide +kernel
theorem dL_shut_22 : decode cL_shut 22 = .ok (.iconst 1, 1) := by decide +kernel
theorem dL_shut_23 : decode cL_shut 23 = .ok (.ireturn, 1) := by decide +kernel
theorem dL_soonest_0 : decode cL_soonest 0 = .ok (.aload_n 2, 1) := by decide +kernel
theorem dL_soonest_1 : decode cL_soonest 1 = .ok (.iconst 0, 1) := by decide +kernel
theorem dL_soonest_2 : decode cL_soonest 2 = .ok (.aload_n 0, 1) := by decide +kernel
theorem dL_soonest_3 : decode cL_soonest 3 = .ok (.iload_n 1, 1) := by decide +kernel
theorem dL_soonest_4 : decode cL_soonest 4 = .ok (.invokevirtual 144, 3) := by decide +kernel
theorem dL_soonest_12 : decode cL_soonest 12 = .ok (.astore_n 3, 1) := by decide +kernel
theorem dL_soonest_13 : decode cL_soonest 13 = .ok (.iconst 1, 1) := by decide +kernel
theorem dL_soonest_14 : decode cL_soonest 14 = .ok (.ireturn, 1) := by decide +kernel
theorem dL_step_0 : decode cL_step 0 = .ok (.aload 4, 2) := by decide +kernel
theorem dL_step_2 : decode cL_step 2 = .ok (.iconst 0, 1) := by decide +kernel
theorem dL_step_3 : decode cL_step 3 = .ok (.aload_n 0, 1) := by decide +kernel
theorem dL_step_4 : decode cL_step 4 = .ok (.iload_n 1, 1) := by decide +kernel
theorem dL_step_5 : decode cL_step 5 = .ok (.iload_n 2, 1) := by decide +kernel
theorem dL_step_6 : decode cL_step 6 = .ok (.iload_n 3, 1) := by decide +kernel
theorem dL_step_7 : decode cL_step 7 = .ok (.invokevirtual 55, 3) := by decide +kernel
theorem dL_step_15 : decode cL_step 15 = .ok (.astore 5, 2) := by decide +kernel
theorem dL_step_17 : decode cL_step 17 = .ok (.iconst 1, 1) := by decide +kernel
theorem dL_step_18 : decode cL_step 18 = .ok (.ireturn, 1) := by decide +kernel
theorem dL_terms_0 : decode cL_terms 0 = .ok (.aload 6, 2) := by decide +kernel
theorem dL_terms_2 : decode cL_terms 2 = .ok (.iconst 0, 1) := by decide +kernel
theorem dL_terms_3 : decode cL_terms 3 = .ok (.aload_n 0, 1) := by decide +kernel
theorem dL_terms_4 : decode cL_terms 4 = .ok (.iload_n 1, 1) := by decide +kernel
theorem dL_terms_5 : decode cL_terms 5 = .ok (.iload_n 2, 1) := by decide +kernel
theorem dL_terms_6 : decode cL_terms 6 = .ok (.iload_n 3, 1) := by decide +kernel
theorem dL_terms_7 : decode cL_terms 7 = .ok (.iload 4, 2) := by decide +kernel
theorem dL_terms_9 : decode cL_terms 9 = .ok (.iload 5, 2) := by decide +kernel
theorem dL_terms_11 : decode cL_terms 11 = .ok (.invokevirtual 29, 3) := by decide +kernel
theorem dL_terms_19 : decode cL_terms 19 = .ok (.astore 7, 2) := by decide +kernel
theorem dL_terms_21 : decode cL_terms 21 = .ok (.iconst 1, 1) := by decide +kernel
theorem dL_terms_22 : decode cL_terms 22 = .ok (.ireturn, 1) := by decide +kernel
theorem dL_tied_0 : decode cL_tied 0 = .ok (.aload_n 2, 1) := by decide +kernel
theorem dL_tied_1 : decode cL_tied 1 = .ok (.iconst 0, 1) := by decide +kernel
theorem dL_tied_2 : decode cL_tied 2 = .ok (.aload_n 0, 1) := by decide +kernel
theorem dL_tied_3 : decode cL_tied 3 = .ok (.iload_n 1, 1) := by decide +kernel
theorem dL_tied_4 : decode cL_tied 4 = .ok (.invokevirtual 107, 3) := by decide +kernel
theorem dL_tied_11 : decode cL_tied 11 = .ok (.astore_n 3, 1) := by decide +kernel
theorem dL_tied_12 : decode cL_tied 12 = .ok (.iconst 1, 1) := by decide +kernel
theorem dL_tied_13 : decode cL_tied 13 = .ok (.ireturn, 1) := by decide +kernel
theorem dL_tiedUp_0 : decode cL_tiedUp 0 = .ok (.aload_n 2, 1) := by decide +kernel
theorem dL_tiedUp_1 : decode cL_tiedUp 1 = .ok (.iconst 0, 1) := by decide +kernel
theorem dL_tiedUp_2 : decode cL_tiedUp 2 = .ok (.aload_n 0, 1) := by decide +kernel
theorem dL_tiedUp_3 : decode cL_tiedUp 3 = .ok (.iload_n 1, 1) := by decide +kernel
theorem dL_tiedUp_4 : decode cL_tiedUp 4 = .ok (.invokevirtual 160, 3) := by decide +kernel
theorem dL_tiedUp_11 : decode cL_tiedUp 11 = .ok (.astore_n 3, 1) := by decide +kernel
theorem dL_tiedUp_12 : decode cL_tiedUp 12 = .ok (.iconst 1, 1) := by decide +kernel
theorem dL_tiedUp_13 : decode cL_tiedUp 13 = .ok (.ireturn, 1) := by decide +kernel
theorem dL_used_0 : decode cL_used 0 = .ok (.aload_n 3, 1) := by decide +kernel
theorem dL_used_1 : decode cL_used 1 = .ok (.iconst 0, 1) := by decide +kernel
theorem dL_used_2 : decode cL_used 2 = .ok (.aload_n 0, 1) := by decide +kernel
theorem dL_used_3 : decode cL_used 3 = .ok (.iload_n 1, 1) := by decide +kernel
theorem dL_used_4 : decode cL_used 4 = .ok (.iload_n 2, 1) := by decide +kernel
theorem dL_used_5 : decode cL_used 5 = .ok (.invokevirtual 82, 3) := by decide +kernel
theorem dL_used_13 : decode cL_used 13 = .ok (.astore 4, 2) := by decide +kernel
theorem dL_used_15 : decode cL_used 15 = .ok (.iconst 1, 1) := by decide +kernel
theorem dL_used_16 : decode cL_used 16 = .ok (.ireturn, 1) := by decide +kernel
theorem dL_vital_0 : decode cL_vital 0 = .ok (.aload_n 1, 1) := by decide +kernel
theorem dL_vital_1 : decode cL_vital 1 = .ok (.iconst 0, 1) := by decide +kernel
theorem dL_vital_2 : decode cL_vital 2 = .ok (.aload_n 0, 1) := by decide +kernel
theorem dL_vital_3 : decode cL_vital 3 = .ok (.invokevirtual 178, 3) := by decide +kernel
theorem dL_vital_10 : decode cL_vital 10 = .ok (.astore_n 2, 1) := by decide +kernel
theorem dL_vital_11 : decode cL_vital 11 = .ok (.iconst 1, 1) := by decide +kernel
theorem dL_vital_12 : decode cL_vital 12 = .ok (.ireturn, 1) := by decide +kernel
theorem dL_without_0 : decode cL_without 0 = .ok (.aload_n 2, 1) := by decide +kernel
theorem dL_without_1 : decode cL_without 1 = .ok (.iconst 0, 1) := by decide +kernel
theorem dL_without_2 : decode cL_without 2 = .ok (.aload_n 0, 1) := by decide +kernel
theorem dL_without_3 : decode cL_without 3 = .ok (.iload_n 1, 1) := by decide +kernel
theorem dL_without_4 : decode cL_without 4 = .ok (.invokevirtual 175, 3) := by decide +kernel
theorem dL_without_12 : decode cL_without 12 = .ok (.astore_n 3, 1) := by decide +kernel
theorem dL_without_13 : decode cL_without 13 = .ok (.iconst 1, 1) := by decide +kernel
theorem dL_without_14 : decode cL_without 14 = .ok (.ireturn, 1) := by decide +kernel
theorem dX11_account_0 : decode cX11_account 0 = .ok (.aload_n 0, 1) := by decide +kernel
theorem dX11_account_1 : decode cX11_account 1 = .ok (.iload_n 1, 1) := by decide +kernel
theorem dX11_account_2 : decode cX11_account 2 = .ok (.invokevirtual 103, 3) := by decide +kernel
theorem dX11_accountAt_0 : decode cX11_accountAt 0 = .ok (.aload_n 0, 1) := by decide +kernel
theorem dX11_accountAt_1 : decode cX11_accountAt 1 = .ok (.iload_n 1, 1) := by decide +kernel
theorem dX11_accountAt_2 : decode cX11_accountAt 2 = .ok (.iconst 0, 1) := by decide +kernel
theorem dX11_accountAt_3 : decode cX11_accountAt 3 = .ok (.aload_n 0, 1) := by decide +kernel
theorem dX11_accountAt_4 : decode cX11_accountAt 4 = .ok (.getfield 10, 3) := by decide +kernel
theorem dX11_accountAt_7 : decode cX11_accountAt 7 = .ok (.getfield 264, 3) := by decide +kernel
theorem dX11_accountAt_10 : decode cX11_accountAt 10 = .ok (.iconst 1, 1) := by decide +kernel
theorem dX11_accountAt_11 : decode cX11_accountAt 11 = .ok (.isub, 1) := by decide +kernel
theorem dX11_accountAt_12 : decode cX11_accountAt 12 = .ok (.invokestatic 56, 3) := by decide +kernel
theorem dX11_accountAt_15 : decode cX11_accountAt 15 = .ok (.invokevirtual 186, 3) := by decide +kernel
theorem dX11_accountOf_0 : decode cX11_accountOf 0 = .ok (.aload_n 0, 1) := by decide +kernel
theorem dX11_accountOf_1 : decode cX11_accountOf 1 = .ok (.iload_n 1, 1) := by decide +kernel
theorem dX11_accountOf_2 : decode cX11_accountOf 2 = .ok (.invokevirtual 110, 3) := by decide +kernel
theorem dX11_after_0 : decode cX11_after 0 = .ok (.aload_n 0, 1) := by decide +kernel
theorem dX11_after_1 : decode cX11_after 1 = .ok (.iload_n 1, 1) := by decide +kernel
theorem dX11_after_2 : decode cX11_after 2 = .ok (.invokevirtual 68, 3) := by decide +kernel
theorem dX11_arrives_0 : decode cX11_arrives 0 = .ok (.aload_n 0, 1) := by decide +kernel
theorem dX11_arrives_1 : decode cX11_arrives 1 = .ok (.iload_n 1, 1) := by decide +kernel
theorem dX11_arrives_2 : decode cX11_arrives 2 = .ok (.invokevirtual 110, 3) := by decide +kernel
theorem dX11_ask_0 : decode cX11_ask 0 = .ok (.aload_n 0, 1) := by decide +kernel
theorem dX11_ask_1 : decode cX11_ask 1 = .ok (.iload_n 1, 1) := by decide +kernel
theorem dX11_ask_2 : decode cX11_ask 2 = .ok (.invokevirtual 103, 3) := by decide +kernel
theorem dX11_bank_0 : decode cX11_bank 0 = .ok (.aload_n 0, 1) := by decide +kernel
theorem dX11_bank_1 : decode cX11_bank 1 = .ok (.iload_n 1, 1) := by decide +kernel
theorem dX11_bank_2 : decode cX11_bank 2 = .ok (.invokevirtual 68, 3) := by decide +kernel
theorem dX11_bankOf_0 : decode cX11_bankOf 0 = .ok (.aload_n 0, 1) := by decide +kernel
theorem dX11_bankOf_1 : decode cX11_bankOf 1 = .ok (.iload_n 1, 1) := by decide +kernel
theorem dX11_bankOf_2 : decode cX11_bankOf 2 = .ok (.invokevirtual 103, 3) := by decide +kernel
theorem dX11_bars_0 : decode cX11_bars 0 = .ok (.aload_n 0, 1) := by decide +kernel
theorem dX11_bars_1 : decode cX11_bars 1 = .ok (.iload_n 1, 1) := by decide +kernel
theorem dX11_bars_2 : decode cX11_bars 2 = .ok (.invokevirtual 110, 3) := by decide +kernel
theorem dX11_busiest_0 : decode cX11_busiest 0 = .ok (.aload_n 0, 1) := by decide +kernel
theorem dX11_busiest_1 : decode cX11_busiest 1 = .ok (.iload_n 1, 1) := by decide +kernel
theorem dX11_busiest_2 : decode cX11_busiest 2 = .ok (.invokevirtual 110, 3) := by decide +kernel
theorem dX11_cheapest_0 : decode cX11_cheapest 0 = .ok (.aload_n 0, 1) := by decide +kernel
theorem dX11_cheapest_1 : decode cX11_cheapest 1 = .ok (.aload_n 0, 1) := by decide +kernel
theorem dX11_cheapest_2 : decode cX11_cheapest 2 = .ok (.getfield 177, 3) := by decide +kernel
theorem dX11_cheapest_5 : decode cX11_cheapest 5 = .ok (.ifCond .eq 14, 3) := by decide +kernel
theorem dX11_cheapest_19 : decode cX11_cheapest 19 = .ok (.iconst 0, 1) := by decide +kernel
theorem dX11_cheapest_20 : decode cX11_cheapest 20 = .ok (.invokevirtual 60, 3) := by decide +kernel
theorem dX11_days_0 : decode cX11_days 0 = .ok (.aload_n 0, 1) := by decide +kernel
theorem dX11_days_1 : decode cX11_days 1 = .ok (.iload_n 1, 1) := by decide +kernel
theorem dX11_days_2 : decode cX11_days 2 = .ok (.invokevirtual 68, 3) := by decide +kernel
theorem dX11_delay_0 : decode cX11_delay 0 = .ok (.aload_n 0, 1) := by decide +kernel
theorem dX11_delay_1 : decode cX11_delay 1 = .ok (.iload_n 1, 1) := by decide +kernel
theorem dX11_delay_2 : decode cX11_delay 2 = .ok (.invokevirtual 110, 3) := by decide +kernel
theorem dX11_draw_0 : decode cX11_draw 0 = .ok (.aload_n 0, 1) := by decide +kernel
theorem dX11_draw_1 : decode cX11_draw 1 = .ok (.iload_n 1, 1) := by decide +kernel
theorem dX11_draw_2 : decode cX11_draw 2 = .ok (.invokevirtual 110, 3) := by decide +kernel
theorem dX11_due_0 : decode cX11_due 0 = .ok (.aload_n 0, 1) := by decide +kernel
theorem dX11_due_1 : decode cX11_due 1 = .ok (.iload_n 1, 1) := by decide +kernel
theorem dX11_due_2 : decode cX11_due 2 = .ok (.invokevirtual 103, 3) := by decide +kernel
theorem dX11_fee_0 : decode cX11_fee 0 = .ok (.aload_n 0, 1) := by decide +kernel
theorem dX11_fee_1 : decode cX11_fee 1 = .ok (.iload_n 1, 1) := by decide +kernel
theorem dX11_fee_2 : decode cX11_fee 2 = .ok (.invokevirtual 110, 3) := by decide +kernel
theorem dX11_fewest_0 : decode cX11_fewest 0 = .ok (.aload_n 0, 1) := by decide +kernel
theorem dX11_fewest_1 : decode cX11_fewest 1 = .ok (.aload_n 0, 1) := by decide +kernel
theorem dX11_fewest_2 : decode cX11_fewest 2 = .ok (.getfield 177, 3) := by decide +kernel
theorem dX11_fewest_5 : decode cX11_fewest 5 = .ok (.ifCond .eq 14, 3) := by decide +kernel
theorem dX11_fewest_19 : decode cX11_fewest 19 = .ok (.iconst 0, 1) := by decide +kernel
theorem dX11_fewest_20 : decode cX11_fewest 20 = .ok (.invokevirtual 60, 3) := by decide +kernel
theorem dX11_forecast_0 : decode cX11_forecast 0 = .ok (.aload_n 0, 1) := by decide +kernel
theorem dX11_forecast_1 : decode cX11_forecast 1 = .ok (.iload_n 1, 1) := by decide +kernel
theorem dX11_forecast_2 : decode cX11_forecast 2 = .ok (.invokevirtual 110, 3) := by decide +kernel
theorem dX11_fund_0 : decode cX11_fund 0 = .ok (.aload_n 0, 1) := by decide +kernel
theorem dX11_fund_1 : decode cX11_fund 1 = .ok (.iload_n 1, 1) := by decide +kernel
theorem dX11_fund_2 : decode cX11_fund 2 = .ok (.invokevirtual 110, 3) := by decide +kernel
theorem dX11_holiday_0 : decode cX11_holiday 0 = .ok (.aload_n 0, 1) := by decide +kernel
theorem dX11_holiday_1 : decode cX11_holiday 1 = .ok (.iload_n 1, 1) := by decide +kernel
theorem dX11_holiday_2 : decode cX11_holiday 2 = .ok (.invokevirtual 68, 3) := by decide +kernel
theorem dX11_hours_0 : decode cX11_hours 0 = .ok (.aload_n 0, 1) := by decide +kernel
theorem dX11_hours_1 : decode cX11_hours 1 = .ok (.iload_n 1, 1) := by decide +kernel
theorem dX11_hours_2 : decode cX11_hours 2 = .ok (.invokevirtual 110, 3) := by decide +kernel
theorem dX11_idle_0 : decode cX11_idle 0 = .ok (.aload_n 0, 1) := by decide +kernel
theorem dX11_idle_1 : decode cX11_idle 1 = .ok (.iload_n 1, 1) := by decide +kernel
theorem dX11_idle_2 : decode cX11_idle 2 = .ok (.invokevirtual 68, 3) := by decide +kernel
theorem dX11_late_0 : decode cX11_late 0 = .ok (.aload_n 0, 1) := by decide +kernel
theorem dX11_late_1 : decode cX11_late 1 = .ok (.iload_n 1, 1) := by decide +kernel
theorem dX11_late_2 : decode cX11_late 2 = .ok (.invokevirtual 228, 3) := by decide +kernel
theorem dX11_latest_0 : decode cX11_latest 0 = .ok (.aload_n 0, 1) := by decide +kernel
theorem dX11_latest_1 : decode cX11_latest 1 = .ok (.aload_n 0, 1) := by decide +kernel
theorem dX11_latest_2 : decode cX11_latest 2 = .ok (.getfield 177, 3) := by decide +kernel
theorem dX11_latest_5 : decode cX11_latest 5 = .ok (.ifCond .eq 14, 3) := by decide +kernel
theorem dX11_latest_19 : decode cX11_latest 19 = .ok (.iconst 0, 1) := by decide +kernel
theorem dX11_latest_20 : decode cX11_latest 20 = .ok (.invokevirtual 60, 3) := by decide +kernel
theorem dX11_leaves_0 : decode cX11_leaves 0 = .ok (.aload_n 0, 1) := by decide +kernel
theorem dX11_leaves_1 : decode cX11_leaves 1 = .ok (.iload_n 1, 1) := by decide +kernel
theorem dX11_leaves_2 : decode cX11_leaves 2 = .ok (.invokevirtual 110, 3) := by decide +kernel
theorem dX11_leg_0 : decode cX11_leg 0 = .ok (.aload_n 0, 1) := by decide +kernel
theorem dX11_leg_1 : decode cX11_leg 1 = .ok (.iload_n 1, 1) := by decide +kernel
theorem dX11_leg_2 : decode cX11_leg 2 = .ok (.invokevirtual 228, 3) := by decide +kernel
theorem dX11_limits_0 : decode cX11_limits 0 = .ok (.aload_n 0, 1) := by decide +kernel
theorem dX11_limits_1 : decode cX11_limits 1 = .ok (.iload_n 1, 1) := by decide +kernel
theorem dX11_limits_2 : decode cX11_limits 2 = .ok (.invokevirtual 110, 3) := by decide +kernel
theorem dX11_line_0 : decode cX11_line 0 = .ok (.aload_n 0, 1) := by decide +kernel
theorem dX11_line_1 : decode cX11_line 1 = .ok (.iload_n 1, 1) := by decide +kernel
theorem dX11_line_2 : decode cX11_line 2 = .ok (.invokevirtual 110, 3) := by decide +kernel
theorem dX11_lowest_0 : decode cX11_lowest 0 = .ok (.aload_n 0, 1) := by decide +kernel
theorem dX11_lowest_1 : decode cX11_lowest 1 = .ok (.iload_n 1, 1) := by decide +kernel
theorem dX11_lowest_2 : decode cX11_lowest 2 = .ok (.invokevirtual 110, 3) := by decide +kernel
theorem dX11_most_0 : decode cX11_most 0 = .ok (.aload_n 0, 1) := by decide +kernel
theorem dX11_most_1 : decode cX11_most 1 = .ok (.aload_n 0, 1) := by decide +kernel
theorem dX11_most_2 : decode cX11_most 2 = .ok (.getfield 177, 3) := by decide +kernel
theorem dX11_most_5 : decode cX11_most 5 = .ok (.ifCond .eq 14, 3) := by decide +kernel
theorem dX11_most_19 : decode cX11_most 19 = .ok (.iconst 0, 1) := by decide +kernel
theorem dX11_most_20 : decode cX11_most 20 = .ok (.invokevirtual 60, 3) := by decide +kernel
theorem dX11_mustBeBank_0 : decode cX11_mustBeBank 0 = .ok (.aload_n 0, 1) := by decide +kernel
theorem dX11_mustBeBank_1 : decode cX11_mustBeBank 1 = .ok (.iload_n 1, 1) := by decide +kernel
theorem dX11_mustBeBank_2 : decode cX11_mustBeBank 2 = .ok (.iconst 0, 1) := by decide +kernel
theorem dX11_mustBeBank_3 : decode cX11_mustBeBank 3 = .ok (.aload_n 0, 1) := by decide +kernel
theorem dX11_mustBeBank_4 : decode cX11_mustBeBank 4 = .ok (.getfield 10, 3) := by decide +kernel
theorem dX11_mustBeBank_7 : decode cX11_mustBeBank 7 = .ok (.getfield 261, 3) := by decide +kernel
theorem dX11_mustBeBank_10 : decode cX11_mustBeBank 10 = .ok (.iconst 1, 1) := by decide +kernel
theorem dX11_mustBeBank_11 : decode cX11_mustBeBank 11 = .ok (.isub, 1) := by decide +kernel
theorem dX11_mustBeBank_12 : decode cX11_mustBeBank 12 = .ok (.invokestatic 56, 3) := by decide +kernel
theorem dX11_mustBeBank_15 : decode cX11_mustBeBank 15 = .ok (.invokevirtual 186, 3) := by decide +kernel
theorem dX11_mustExist_0 : decode cX11_mustExist 0 = .ok (.iload_n 1, 1) := by decide +kernel
theorem dX11_mustExist_1 : decode cX11_mustExist 1 = .ok (.ifCond .ne 24, 3) := by decide +kernel
theorem dX11_mustExist_4 : decode cX11_mustExist 4 = .ok (.aload_n 0, 1) := by decide +kernel
theorem dX11_mustExist_5 : decode cX11_mustExist 5 = .ok (.dup, 1) := by decide +kernel
theorem dX11_mustExist_6 : decode cX11_mustExist 6 = .ok (.getfield 436, 3) := by decide +kernel
theorem dX11_mustExist_9 : decode cX11_mustExist 9 = .ok (.iconst 1, 1) := by decide +kernel
theorem dX11_mustExist_10 : decode cX11_mustExist 10 = .ok (.iadd, 1) := by decide +kernel
theorem dX11_mustExist_11 : decode cX11_mustExist 11 = .ok (.putfield 436, 3) := by decide +kernel
theorem dX11_mustExist_14 : decode cX11_mustExist 14 = .ok (.new 442, 3) := by decide +kernel
theorem dX11_mustExist_17 : decode cX11_mustExist 17 = .ok (.dup, 1) := by decide +kernel
theorem dX11_mustExist_18 : decode cX11_mustExist 18 = .ok (.ldc_w 444, 3) := by decide +kernel
theorem dX11_mustExist_21 : decode cX11_mustExist 21 = .ok (.invokespecial 446, 3) := by decide +kernel
theorem dX11_mustExist_24 : decode cX11_mustExist 24 = .ok (.athrow, 1) := by decide +kernel
theorem dX11_mustFit_0 : decode cX11_mustFit 0 = .ok (.iload_n 1, 1) := by decide +kernel
theorem dX11_mustFit_1 : decode cX11_mustFit 1 = .ok (.ifCond .ne 24, 3) := by decide +kernel
theorem dX11_mustFit_4 : decode cX11_mustFit 4 = .ok (.aload_n 0, 1) := by decide +kernel
theorem dX11_mustFit_5 : decode cX11_mustFit 5 = .ok (.dup, 1) := by decide +kernel
theorem dX11_mustFit_6 : decode cX11_mustFit 6 = .ok (.getfield 439, 3) := by decide +kernel
theorem dX11_mustFit_9 : decode cX11_mustFit 9 = .ok (.iconst 1, 1) := by decide +kernel
theorem dX11_mustFit_10 : decode cX11_mustFit 10 = .ok (.iadd, 1) := by decide +kernel
theorem dX11_mustFit_11 : decode cX11_mustFit 11 = .ok (.putfield 439, 3) := by decide +kernel
theorem dX11_mustFit_14 : decode cX11_mustFit 14 = .ok (.new 449, 3) := by decide +kernel
theorem dX11_mustFit_17 : decode cX11_mustFit 17 = .ok (.dup, 1) := by decide +kernel
theorem dX11_mustFit_18 : decode cX11_mustFit 18 = .ok (.ldc_w 451, 3) := by decide +kernel
theorem dX11_mustFit_21 : decode cX11_mustFit 21 = .ok (.invokespecial 453, 3) := by decide +kernel
theorem dX11_mustFit_24 : decode cX11_mustFit 24 = .ok (.athrow, 1) := by decide +kernel
theorem dX11_mustFit_25 : decode cX11_mustFit 25 = .ok (.return_, 1) := by decide +kernel
theorem dX11_needs_0 : decode cX11_needs 0 = .ok (.aload_n 0, 1) := by decide +kernel
theorem dX11_needs_1 : decode cX11_needs 1 = .ok (.iload_n 1, 1) := by decide +kernel
theorem dX11_needs_2 : decode cX11_needs 2 = .ok (.invokevirtual 110, 3) := by decide +kernel
theorem dX11_next_0 : decode cX11_next 0 = .ok (.aload_n 0, 1) := by decide +kernel
theorem dX11_next_1 : decode cX11_next 1 = .ok (.iload_n 1, 1) := by decide +kernel
theorem dX11_next_2 : decode cX11_next 2 = .ok (.invokevirtual 68, 3) := by decide +kernel
theorem dX11_open_0 : decode cX11_open 0 = .ok (.aload_n 0, 1) := by decide +kernel
theorem dX11_open_1 : decode cX11_open 1 = .ok (.iload_n 1, 1) := by decide +kernel
theorem dX11_open_2 : decode cX11_open 2 = .ok (.invokevirtual 68, 3) := by decide +kernel
theorem dX11_pay_0 : decode cX11_pay 0 = .ok (.aload_n 0, 1) := by decide +kernel
theorem dX11_pay_1 : decode cX11_pay 1 = .ok (.aload_n 0, 1) := by decide +kernel
theorem dX11_pay_2 : decode cX11_pay 2 = .ok (.getfield 177, 3) := by decide +kernel
theorem dX11_pay_5 : decode cX11_pay 5 = .ok (.invokevirtual 186, 3) := by decide +kernel
theorem dX11_payment_0 : decode cX11_payment 0 = .ok (.aload_n 0, 1) := by decide +kernel
theorem dX11_payment_1 : decode cX11_payment 1 = .ok (.iload_n 1, 1) := by decide +kernel
theorem dX11_payment_2 : decode cX11_payment 2 = .ok (.invokevirtual 228, 3) := by decide +kernel
theorem dX11_paymentAt_0 : decode cX11_paymentAt 0 = .ok (.aload_n 0, 1) := by decide +kernel
theorem dX11_paymentAt_1 : decode cX11_paymentAt 1 = .ok (.iload_n 1, 1) := by decide +kernel
theorem dX11_paymentAt_2 : decode cX11_paymentAt 2 = .ok (.iconst 0, 1) := by decide +kernel
theorem dX11_paymentAt_3 : decode cX11_paymentAt 3 = .ok (.aload_n 0, 1) := by decide +kernel
theorem dX11_paymentAt_4 : decode cX11_paymentAt 4 = .ok (.getfield 21, 3) := by decide +kernel
theorem dX11_paymentAt_7 : decode cX11_paymentAt 7 = .ok (.getfield 220, 3) := by decide +kernel
theorem dX11_paymentAt_10 : decode cX11_paymentAt 10 = .ok (.iconst 1, 1) := by decide +kernel
theorem dX11_paymentAt_11 : decode cX11_paymentAt 11 = .ok (.isub, 1) := by decide +kernel
theorem dX11_paymentAt_12 : decode cX11_paymentAt 12 = .ok (.invokestatic 56, 3) := by decide +kernel
theorem dX11_paymentAt_15 : decode cX11_paymentAt 15 = .ok (.invokevirtual 186, 3) := by decide +kernel
theorem dX11_placeAt_0 : decode cX11_placeAt 0 = .ok (.aload_n 0, 1) := by decide +kernel
theorem dX11_placeAt_1 : decode cX11_placeAt 1 = .ok (.iload_n 1, 1) := by decide +kernel
theorem dX11_placeAt_2 : decode cX11_placeAt 2 = .ok (.iconst 0, 1) := by decide +kernel
theorem dX11_placeAt_3 : decode cX11_placeAt 3 = .ok (.aload_n 0, 1) := by decide +kernel
theorem dX11_placeAt_4 : decode cX11_placeAt 4 = .ok (.getfield 10, 3) := by decide +kernel
theorem dX11_placeAt_7 : decode cX11_placeAt 7 = .ok (.getfield 258, 3) := by decide +kernel
theorem dX11_placeAt_10 : decode cX11_placeAt 10 = .ok (.iconst 1, 1) := by decide +kernel
theorem dX11_placeAt_11 : decode cX11_placeAt 11 = .ok (.isub, 1) := by decide +kernel
theorem dX11_placeAt_12 : decode cX11_placeAt 12 = .ok (.invokestatic 56, 3) := by decide +kernel
theorem dX11_placeAt_15 : decode cX11_placeAt 15 = .ok (.invokevirtual 186, 3) := by decide +kernel
theorem dX11_placeOf_0 : decode cX11_placeOf 0 = .ok (.aload_n 0, 1) := by decide +kernel
theorem dX11_placeOf_1 : decode cX11_placeOf 1 = .ok (.iload_n 1, 1) := by decide +kernel
theorem dX11_placeOf_2 : decode cX11_placeOf 2 = .ok (.invokevirtual 68, 3) := by decide +kernel
theorem dX11_reach_0 : decode cX11_reach 0 = .ok (.aload_n 0, 1) := by decide +kernel
theorem dX11_reach_1 : decode cX11_reach 1 = .ok (.iload_n 1, 1) := by decide +kernel
theorem dX11_reach_2 : decode cX11_reach 2 = .ok (.invokevirtual 103, 3) := by decide +kernel
theorem dX11_refuse_0 : decode cX11_refuse 0 = .ok (.aload_n 0, 1) := by decide +kernel
theorem dX11_refuse_1 : decode cX11_refuse 1 = .ok (.iload_n 1, 1) := by decide +kernel
theorem dX11_refuse_2 : decode cX11_refuse 2 = .ok (.invokevirtual 228, 3) := by decide +kernel
theorem dX11_reroute_0 : decode cX11_reroute 0 = .ok (.aload_n 0, 1) := by decide +kernel
theorem dX11_reroute_1 : decode cX11_reroute 1 = .ok (.iload_n 1, 1) := by decide +kernel
theorem dX11_reroute_2 : decode cX11_reroute 2 = .ok (.invokevirtual 228, 3) := by decide +kernel
theorem dX11_route_0 : decode cX11_route 0 = .ok (.aload_n 0, 1) := by decide +kernel
theorem dX11_route_1 : decode cX11_route 1 = .ok (.aload_n 0, 1) := by decide +kernel
theorem dX11_route_2 : decode cX11_route 2 = .ok (.getfield 177, 3) := by decide +kernel
theorem dX11_route_5 : decode cX11_route 5 = .ok (.invokevirtual 186, 3) := by decide +kernel
theorem dX11_shared_0 : decode cX11_shared 0 = .ok (.aload_n 0, 1) := by decide +kernel
theorem dX11_shared_1 : decode cX11_shared 1 = .ok (.iload_n 1, 1) := by decide +kernel
theorem dX11_shared_2 : decode cX11_shared 2 = .ok (.invokevirtual 228, 3) := by decide +kernel
theorem dX11_shut_0 : decode cX11_shut 0 = .ok (.aload_n 0, 1) := by decide +kernel
theorem dX11_shut_1 : decode cX11_shut 1 = .ok (.iload_n 1, 1) := by decide +kernel
theorem dX11_shut_2 : decode cX11_shut 2 = .ok (.invokevirtual 110, 3) := by decide +kernel
theorem dX11_soonest_0 : decode cX11_soonest 0 = .ok (.aload_n 0, 1) := by decide +kernel
theorem dX11_soonest_1 : decode cX11_soonest 1 = .ok (.iload_n 1, 1) := by decide +kernel
theorem dX11_soonest_2 : decode cX11_soonest 2 = .ok (.invokevirtual 103, 3) := by decide +kernel
theorem dX11_step_0 : decode cX11_step 0 = .ok (.aload_n 0, 1) := by decide +kernel
theorem dX11_step_1 : decode cX11_step 1 = .ok (.aload_n 0, 1) := by decide +kernel
theorem dX11_step_2 : decode cX11_step 2 = .ok (.getfield 177, 3) := by decide +kernel
theorem dX11_step_5 : decode cX11_step 5 = .ok (.invokevirtual 186, 3) := by decide +kernel
theorem dX11_terms_0 : decode cX11_terms 0 = .ok (.aload_n 0, 1) := by decide +kernel
theorem dX11_terms_1 : decode cX11_terms 1 = .ok (.iload_n 1, 1) := by decide +kernel
theorem dX11_terms_2 : decode cX11_terms 2 = .ok (.invokevirtual 110, 3) := by decide +kernel
theorem dX11_tied_0 : decode cX11_tied 0 = .ok (.aload_n 0, 1) := by decide +kernel
theorem dX11_tied_1 : decode cX11_tied 1 = .ok (.iload_n 1, 1) := by decide +kernel
theorem dX11_tied_2 : decode cX11_tied 2 = .ok (.invokevirtual 110, 3) := by decide +kernel
theorem dX11_tiedUp_0 : decode cX11_tiedUp 0 = .ok (.aload_n 0, 1) := by decide +kernel
theorem dX11_tiedUp_1 : decode cX11_tiedUp 1 = .ok (.iload_n 1, 1) := by decide +kernel
theorem dX11_tiedUp_2 : decode cX11_tiedUp 2 = .ok (.invokevirtual 228, 3) := by decide +kernel
theorem dX11_used_0 : decode cX11_used 0 = .ok (.aload_n 0, 1) := by decide +kernel
theorem dX11_used_1 : decode cX11_used 1 = .ok (.iload_n 1, 1) := by decide +kernel
theorem dX11_used_2 : decode cX11_used 2 = .ok (.invokevirtual 110, 3) := by decide +kernel
theorem dX11_vital_0 : decode cX11_vital 0 = .ok (.aload_n 0, 1) := by decide +kernel
theorem dX11_vital_1 : decode cX11_vital 1 = .ok (.aload_n 0, 1) := by decide +kernel
theorem dX11_vital_2 : decode cX11_vital 2 = .ok (.getfield 177, 3) := by decide +kernel
theorem dX11_vital_5 : decode cX11_vital 5 = .ok (.invokevirtual 60, 3) := by decide +kernel
theorem dX11_within_0 : decode cX11_within 0 = .ok (.iload_n 0, 1) := by decide +kernel
theorem dX11_within_1 : decode cX11_within 1 = .ok (.iload_n 1, 1) := by decide +kernel
theorem dX11_within_2 : decode cX11_within 2 = .ok (.if_icmp .lt 12, 3) := by decide +kernel
theorem dX11_within_5 : decode cX11_within 5 = .ok (.iload_n 0, 1) := by decide +kernel
theorem dX11_within_6 : decode cX11_within 6 = .ok (.iload_n 2, 1) := by decide +kernel
theorem dX11_within_7 : decode cX11_within 7 = .ok (.if_icmp .gt 7, 3) := by decide +kernel
theorem dX11_within_10 : decode cX11_within 10 = .ok (.iconst 1, 1) := by decide +kernel
theorem dX11_within_11 : decode cX11_within 11 = .ok (.goto 4, 3) := by decide +kernel
theorem dX11_within_14 : decode cX11_within 14 = .ok (.iconst 0, 1) := by decide +kernel
theorem dX11_within_15 : decode cX11_within 15 = .ok (.ireturn, 1) := by decide +kernel
theorem dX11_without_0 : decode cX11_without 0 = .ok (.aload_n 0, 1) := by decide +kernel
theorem dX11_without_1 : decode cX11_without 1 = .ok (.iload_n 1, 1) := by decide +kernel
theorem dX11_without_2 : decode cX11_without 2 = .ok (.invokevirtual 110, 3) := by decide +kernel
theorem dX12_in_0 : decode cX12_in 0 = .ok (.iload_n 0, 1) := by decide +kernel
theorem dX12_in_1 : decode cX12_in 1 = .ok (.iload_n 1, 1) := by decide +kernel
theorem dX12_in_2 : decode cX12_in 2 = .ok (.if_icmp .lt 12, 3) := by decide +kernel
theorem dX12_in_5 : decode cX12_in 5 = .ok (.iload_n 0, 1) := by decide +kernel
theorem dX12_in_6 : decode cX12_in 6 = .ok (.iload_n 2, 1) := by decide +kernel
theorem dX12_in_7 : decode cX12_in 7 = .ok (.if_icmp .gt 7, 3) := by decide +kernel
theorem dX12_in_10 : decode cX12_in 10 = .ok (.iconst 1, 1) := by decide +kernel
theorem dX12_in_11 : decode cX12_in 11 = .ok (.goto 4, 3) := by decide +kernel
theorem dX12_in_14 : decode cX12_in 14 = .ok (.iconst 0, 1) := by decide +kernel
theorem dX12_in_15 : decode cX12_in 15 = .ok (.ireturn, 1) := by decide +kernel
