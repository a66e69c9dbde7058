theorem dL_draw_0 : decode cL_draw 0 = .ok (.iload_n 1, 1) := by decide +kernel
theorem dL_draw_1 : decode cL_draw 1 = .ok (.aload_n 0, 1) := by decide +kernel
theorem dL_draw_2 : decode cL_draw 2 = .ok (.arraylength, 1) := by decide +kernel
theorem dL_draw_3 : decode cL_draw 3 = .ok (.if_icmp .ge 9, 3) := by decide +kernel
theorem dL_draw_6 : decode cL_draw 6 = .ok (.aload_n 0, 1) := by decide +kernel
theorem dL_draw_7 : decode cL_draw 7 = .ok (.iload_n 1, 1) := by decide +kernel
theorem dL_draw_8 : decode cL_draw 8 = .ok (.iaload, 1) := by decide +kernel
theorem dL_draw_9 : decode cL_draw 9 = .ok (.goto 11, 3) := by decide +kernel
theorem dL_draw_12 : decode cL_draw 12 = .ok (.ldc 7, 2) := by decide +kernel
theorem dL_draw_14 : decode cL_draw 14 = .ok (.iload_n 1, 1) := by decide +kernel
theorem dL_draw_15 : decode cL_draw 15 = .ok (.imul, 1) := by decide +kernel
theorem dL_draw_16 : decode cL_draw 16 = .ok (.sipush 10369, 3) := by decide +kernel
theorem dL_draw_19 : decode cL_draw 19 = .ok (.iadd, 1) := by decide +kernel
theorem dL_draw_20 : decode cL_draw 20 = .ok (.ldc 8, 2) := by decide +kernel
theorem dL_draw_22 : decode cL_draw 22 = .ok (.iand, 1) := by decide +kernel
theorem dL_draw_23 : decode cL_draw 23 = .ok (.ireturn, 1) := by decide +kernel
theorem dL_in_0 : decode cL_in 0 = .ok (.lload_n 0, 1) := by decide +kernel
theorem dL_in_1 : decode cL_in 1 = .ok (.lload_n 2, 1) := by decide +kernel
theorem dL_in_2 : decode cL_in 2 = .ok (.lcmp, 1) := by decide +kernel
theorem dL_in_3 : decode cL_in 3 = .ok (.ifCond .lt 14, 3) := by decide +kernel
theorem dL_in_6 : decode cL_in 6 = .ok (.lload_n 0, 1) := by decide +kernel
theorem dL_in_7 : decode cL_in 7 = .ok (.lload 4, 2) := by decide +kernel
theorem dL_in_9 : decode cL_in 9 = .ok (.lcmp, 1) := by decide +kernel
theorem dL_in_10 : decode cL_in 10 = .ok (.ifCond .gt 7, 3) := by decide +kernel
theorem dL_in_13 : decode cL_in 13 = .ok (.iconst 1, 1) := by decide +kernel
theorem dL_in_14 : decode cL_in 14 = .ok (.goto 4, 3) := by decide +kernel
theorem dL_in_17 : decode cL_in 17 = .ok (.iconst 0, 1) := by decide +kernel
theorem dL_in_18 : decode cL_in 18 = .ok (.ireturn, 1) := by decide +kernel
theorem dL_append_0 : decode cL_append 0 = .ok (.aload_n 0, 1) := by decide +kernel
theorem dL_append_1 : decode cL_append 1 = .ok (.iload_n 1, 1) := by decide +kernel
theorem dL_append_2 : decode cL_append 2 = .ok (.invokevirtual 9, 3) := by decide +kernel
theorem dL_append_5 : decode cL_append 5 = .ok (.i2l, 1) := by decide +kernel
theorem dL_append_6 : decode cL_append 6 = .ok (.lreturn, 1) := by decide +kernel
theorem dL_append_7 : decode cL_append 7 = .ok (.astore_n 2, 1) := by decide +kernel
theorem dL_append_8 : decode cL_append 8 = .ok (.ldc2_w 17, 3) := by decide +kernel
theorem dL_append_11 : decode cL_append 11 = .ok (.lreturn, 1) := by decide +kernel
theorem dL_append_12 : decode cL_append 12 = .ok (.astore_n 2, 1) := by decide +kernel
theorem dL_append_13 : decode cL_append 13 = .ok (.ldc2_w 21, 3) := by decide +kernel
theorem dL_append_16 : decode cL_append 16 = .ok (.lreturn, 1) := by decide +kernel
theorem dL_load_0 : decode cL_load 0 = .ok (.aload_n 0, 1) := by decide +kernel
theorem dL_load_1 : decode cL_load 1 = .ok (.invokevirtual 23, 3) := by decide +kernel
theorem dL_load_4 : decode cL_load 4 = .ok (.i2l, 1) := by decide +kernel
theorem dL_load_5 : decode cL_load 5 = .ok (.lreturn, 1) := by decide +kernel
theorem dL_load_6 : decode cL_load 6 = .ok (.astore_n 1, 1) := by decide +kernel
theorem dL_load_7 : decode cL_load 7 = .ok (.ldc2_w 21, 3) := by decide +kernel
theorem dL_load_10 : decode cL_load 10 = .ok (.lreturn, 1) := by decide +kernel
theorem dL_about_0 : decode cL_about 0 = .ok (.aload_n 0, 1) := by decide +kernel
theorem dL_about_1 : decode cL_about 1 = .ok (.iload_n 1, 1) := by decide +kernel
theorem dL_about_2 : decode cL_about 2 = .ok (.invokevirtual 27, 3) := by decide +kernel
theorem dL_about_5 : decode cL_about 5 = .ok (.i2l, 1) := by decide +kernel
theorem dL_about_6 : decode cL_about 6 = .ok (.lreturn, 1) := by decide +kernel
theorem dL_about_7 : decode cL_about 7 = .ok (.astore_n 2, 1) := by decide +kernel
theorem dL_about_8 : decode cL_about 8 = .ok (.ldc2_w 17, 3) := by decide +kernel
theorem dL_about_11 : decode cL_about 11 = .ok (.lreturn, 1) := by decide +kernel
theorem dL_setting_0 : decode cL_setting 0 = .ok (.aload_n 0, 1) := by decide +kernel
theorem dL_setting_1 : decode cL_setting 1 = .ok (.iload_n 1, 1) := by decide +kernel
theorem dL_setting_2 : decode cL_setting 2 = .ok (.invokevirtual 30, 3) := by decide +kernel
theorem dL_setting_5 : decode cL_setting 5 = .ok (.i2l, 1) := by decide +kernel
theorem dL_setting_6 : decode cL_setting 6 = .ok (.lreturn, 1) := by decide +kernel
theorem dL_setting_7 : decode cL_setting 7 = .ok (.astore_n 2, 1) := by decide +kernel
theorem dL_setting_8 : decode cL_setting 8 = .ok (.ldc2_w 17, 3) := by decide +kernel
theorem dL_setting_11 : decode cL_setting 11 = .ok (.lreturn, 1) := by decide +kernel
theorem dL_bin_0 : decode cL_bin 0 = .ok (.aload_n 0, 1) := by decide +kernel
theorem dL_bin_1 : decode cL_bin 1 = .ok (.iload_n 1, 1) := by decide +kernel
theorem dL_bin_2 : decode cL_bin 2 = .ok (.iload_n 2, 1) := by decide +kernel
theorem dL_bin_3 : decode cL_bin 3 = .ok (.invokevirtual 33, 3) := by decide +kernel
theorem dL_bin_6 : decode cL_bin 6 = .ok (.i2l, 1) := by decide +kernel
theorem dL_bin_7 : decode cL_bin 7 = .ok (.lreturn, 1) := by decide +kernel
theorem dL_bin_8 : decode cL_bin 8 = .ok (.astore_n 3, 1) := by decide +kernel
theorem dL_bin_9 : decode cL_bin 9 = .ok (.ldc2_w 39, 3) := by decide +kernel
theorem dL_bin_12 : decode cL_bin 12 = .ok (.lreturn, 1) := by decide +kernel
theorem dL_bin_13 : decode cL_bin 13 = .ok (.astore_n 3, 1) := by decide +kernel
theorem dL_bin_14 : decode cL_bin 14 = .ok (.ldc2_w 17, 3) := by decide +kernel
theorem dL_bin_17 : decode cL_bin 17 = .ok (.lreturn, 1) := by decide +kernel
theorem dL_pulse_0 : decode cL_pulse 0 = .ok (.aload_n 0, 1) := by decide +kernel
theorem dL_pulse_1 : decode cL_pulse 1 = .ok (.iload_n 1, 1) := by decide +kernel
theorem dL_pulse_2 : decode cL_pulse 2 = .ok (.invokevirtual 41, 3) := by decide +kernel
theorem dL_pulse_5 : decode cL_pulse 5 = .ok (.i2l, 1) := by decide +kernel
theorem dL_pulse_6 : decode cL_pulse 6 = .ok (.lreturn, 1) := by decide +kernel
theorem dL_pulse_7 : decode cL_pulse 7 = .ok (.astore_n 2, 1) := by decide +kernel
theorem dL_pulse_8 : decode cL_pulse 8 = .ok (.ldc2_w 17, 3) := by decide +kernel
theorem dL_pulse_11 : decode cL_pulse 11 = .ok (.lreturn, 1) := by decide +kernel
theorem dL_fate_0 : decode cL_fate 0 = .ok (.aload_n 0, 1) := by decide +kernel
theorem dL_fate_1 : decode cL_fate 1 = .ok (.iload_n 1, 1) := by decide +kernel
theorem dL_fate_2 : decode cL_fate 2 = .ok (.invokevirtual 44, 3) := by decide +kernel
theorem dL_fate_5 : decode cL_fate 5 = .ok (.i2l, 1) := by decide +kernel
theorem dL_fate_6 : decode cL_fate 6 = .ok (.lreturn, 1) := by decide +kernel
theorem dL_fate_7 : decode cL_fate 7 = .ok (.astore_n 2, 1) := by decide +kernel
theorem dL_fate_8 : decode cL_fate 8 = .ok (.ldc2_w 17, 3) := by decide +kernel
theorem dL_fate_11 : decode cL_fate 11 = .ok (.lreturn, 1) := by decide +kernel
theorem dL_longest_0 : decode cL_longest 0 = .ok (.aload_n 0, 1) := by decide +kernel
theorem dL_longest_1 : decode cL_longest 1 = .ok (.iload_n 1, 1) := by decide +kernel
theorem dL_longest_2 : decode cL_longest 2 = .ok (.invokevirtual 47, 3) := by decide +kernel
theorem dL_longest_5 : decode cL_longest 5 = .ok (.i2l, 1) := by decide +kernel
theorem dL_longest_6 : decode cL_longest 6 = .ok (.lreturn, 1) := by decide +kernel
theorem dL_longest_7 : decode cL_longest 7 = .ok (.astore_n 2, 1) := by decide +kernel
theorem dL_longest_8 : decode cL_longest 8 = .ok (.ldc2_w 17, 3) := by decide +kernel
theorem dL_longest_11 : decode cL_longest 11 = .ok (.lreturn, 1) := by decide +kernel
theorem dL_pattern_0 : decode cL_pattern 0 = .ok (.aload_n 0, 1) := by decide +kernel
theorem dL_pattern_1 : decode cL_pattern 1 = .ok (.iload_n 1, 1) := by decide +kernel
theorem dL_pattern_2 : decode cL_pattern 2 = .ok (.iload_n 2, 1) := by decide +kernel
theorem dL_pattern_3 : decode cL_pattern 3 = .ok (.invokevirtual 50, 3) := by decide +kernel
theorem dL_pattern_6 : decode cL_pattern 6 = .ok (.i2l, 1) := by decide +kernel
theorem dL_pattern_7 : decode cL_pattern 7 = .ok (.lreturn, 1) := by decide +kernel
theorem dL_pattern_8 : decode cL_pattern 8 = .ok (.astore_n 3, 1) := by decide +kernel
theorem dL_pattern_9 : decode cL_pattern 9 = .ok (.ldc2_w 17, 3) := by decide +kernel
theorem dL_pattern_12 : decode cL_pattern 12 = .ok (.lreturn, 1) := by decide +kernel
theorem dL_rain_0 : decode cL_rain 0 = .ok (.aload_n 0, 1) := by decide +kernel
theorem dL_rain_1 : decode cL_rain 1 = .ok (.iload_n 1, 1) := by decide +kernel
theorem dL_rain_2 : decode cL_rain 2 = .ok (.invokevirtual 53, 3) := by decide +kernel
theorem dL_rain_5 : decode cL_rain 5 = .ok (.lreturn, 1) := by decide +kernel
theorem dL_rain_6 : decode cL_rain 6 = .ok (.astore_n 2, 1) := by decide +kernel
theorem dL_rain_7 : decode cL_rain 7 = .ok (.ldc2_w 17, 3) := by decide +kernel
theorem dL_rain_10 : decode cL_rain 10 = .ok (.lreturn, 1) := by decide +kernel
theorem dL_drop_0 : decode cL_drop 0 = .ok (.aload_n 0, 1) := by decide +kernel
theorem dL_drop_1 : decode cL_drop 1 = .ok (.iload_n 1, 1) := by decide +kernel
theorem dL_drop_2 : decode cL_drop 2 = .ok (.iload_n 2, 1) := by decide +kernel
theorem dL_drop_3 : decode cL_drop 3 = .ok (.invokevirtual 57, 3) := by decide +kernel
theorem dL_drop_6 : decode cL_drop 6 = .ok (.i2l, 1) := by decide +kernel
theorem dL_drop_7 : decode cL_drop 7 = .ok (.lreturn, 1) := by decide +kernel
theorem dL_drop_8 : decode cL_drop 8 = .ok (.astore_n 3, 1) := by decide +kernel
theorem dL_drop_9 : decode cL_drop 9 = .ok (.ldc2_w 17, 3) := by decide +kernel
theorem dL_drop_12 : decode cL_drop 12 = .ok (.lreturn, 1) := by decide +kernel
theorem dL_pass_0 : decode cL_pass 0 = .ok (.aload_n 0, 1) := by decide +kernel
theorem dL_pass_1 : decode cL_pass 1 = .ok (.iload_n 1, 1) := by decide +kernel
theorem dL_pass_2 : decode cL_pass 2 = .ok (.invokevirtual 60, 3) := by decide +kernel
theorem dL_pass_5 : decode cL_pass 5 = .ok (.i2l, 1) := by decide +kernel
theorem dL_pass_6 : decode cL_pass 6 = .ok (.lreturn, 1) := by decide +kernel
theorem dL_pass_7 : decode cL_pass 7 = .ok (.astore_n 2, 1) := by decide +kernel
theorem dL_pass_8 : decode cL_pass 8 = .ok (.ldc2_w 17, 3) := by decide +kernel
theorem dL_pass_11 : decode cL_pass 11 = .ok (.lreturn, 1) := by decide +kernel
theorem dL_set_0 : decode cL_set 0 = .ok (.aload_n 0, 1) := by decide +kernel
theorem dL_set_1 : decode cL_set 1 = .ok (.iload_n 1, 1) := by decide +kernel
theorem dL_set_2 : decode cL_set 2 = .ok (.iload_n 2, 1) := by decide +kernel
theorem dL_set_3 : decode cL_set 3 = .ok (.invokevirtual 63, 3) := by decide +kernel
theorem dL_set_6 : decode cL_set 6 = .ok (.i2l, 1) := by decide +kernel
theorem dL_set_7 : decode cL_set 7 = .ok (.lreturn, 1) := by decide +kernel
theorem dL_set_8 : decode cL_set 8 = .ok (.astore_n 3, 1) := by decide +kernel
theorem dL_set_9 : decode cL_set 9 = .ok (.ldc2_w 17, 3) := by decide +kernel
theorem dL_set_12 : decode cL_set 12 = .ok (.lreturn, 1) := by decide +kernel
theorem dL_setBorder_0 : decode cL_setBorder 0 = .ok (.aload_n 0, 1) := by decide +kernel
theorem dL_setBorder_1 : decode cL_setBorder 1 = .ok (.iload_n 1, 1) := by decide +kernel
theorem dL_setBorder_2 : decode cL_setBorder 2 = .ok (.iload_n 2, 1) := by decide +kernel
theorem dL_setBorder_3 : decode cL_setBorder 3 = .ok (.invokevirtual 66, 3) := by decide +kernel
theorem dL_setBorder_6 : decode cL_setBorder 6 = .ok (.i2l, 1) := by decide +kernel
theorem dL_setBorder_7 : decode cL_setBorder 7 = .ok (.lreturn, 1) := by decide +kernel
theorem dL_setBorder_8 : decode cL_setBorder 8 = .ok (.astore_n 3, 1) := by decide +kernel
theorem dL_setBorder_9 : decode cL_setBorder 9 = .ok (.ldc2_w 39, 3) := by decide +kernel
theorem dL_setBorder_12 : decode cL_setBorder 12 = .ok (.lreturn, 1) := by decide +kernel
theorem dL_setBorder_13 : decode cL_setBorder 13 = .ok (.astore_n 3, 1) := by decide +kernel
theorem dL_setBorder_14 : decode cL_setBorder 14 = .ok (.ldc2_w 17, 3) := by decide +kernel
theorem dL_setBorder_17 : decode cL_setBorder 17 = .ok (.lreturn, 1) := by decide +kernel
theorem dL_setBorder_18 : decode cL_setBorder 18 = .ok (.astore_n 3, 1) := by decide +kernel
theorem dL_setBorder_19 : decode cL_setBorder 19 = .ok (.ldc2_w 21, 3) := by decide +kernel
theorem dL_setBorder_22 : decode cL_setBorder 22 = .ok (.lreturn, 1) := by decide +kernel
theorem dL_undo_0 : decode cL_undo 0 = .ok (.aload_n 0, 1) := by decide +kernel
theorem dL_undo_1 : decode cL_undo 1 = .ok (.invokevirtual 69, 3) := by decide +kernel
theorem dL_undo_4 : decode cL_undo 4 = .ok (.i2l, 1) := by decide +kernel
theorem dL_undo_5 : decode cL_undo 5 = .ok (.lreturn, 1) := by decide +kernel
theorem dL_undo_6 : decode cL_undo 6 = .ok (.astore_n 1, 1) := by decide +kernel
theorem dL_undo_7 : decode cL_undo 7 = .ok (.ldc2_w 21, 3) := by decide +kernel
theorem dL_undo_10 : decode cL_undo 10 = .ok (.lreturn, 1) := by decide +kernel
theorem dL_wouldBe_0 : decode cL_wouldBe 0 = .ok (.aload_n 0, 1) := by decide +kernel
theorem dL_wouldBe_1 : decode cL_wouldBe 1 = .ok (.iload_n 1, 1) := by decide +kernel
theorem dL_wouldBe_2 : decode cL_wouldBe 2 = .ok (.iload_n 2, 1) := by decide +kernel
theorem dL_wouldBe_3 : decode cL_wouldBe 3 = .ok (.invokevirtual 72, 3) := by decide +kernel
theorem dL_wouldBe_6 : decode cL_wouldBe 6 = .ok (.i2l, 1) := by decide +kernel
theorem dL_wouldBe_7 : decode cL_wouldBe 7 = .ok (.lreturn, 1) := by decide +kernel
theorem dL_wouldBe_8 : decode cL_wouldBe 8 = .ok (.astore_n 3, 1) := by decide +kernel
theorem dL_wouldBe_9 : decode cL_wouldBe 9 = .ok (.ldc2_w 17, 3) := by decide +kernel
theorem dL_wouldBe_12 : decode cL_wouldBe 12 = .ok (.lreturn, 1) := by decide +kernel
theorem dL_leastSize_0 : decode cL_leastSize 0 = .ok (.aload_n 0, 1) := by decide +kernel
theorem dL_leastSize_1 : decode cL_leastSize 1 = .ok (.iload_n 1, 1) := by decide +kernel
theorem dL_leastSize_2 : decode cL_leastSize 2 = .ok (.invokevirtual 75, 3) := by decide +kernel
theorem dL_leastSize_5 : decode cL_leastSize 5 = .ok (.i2l, 1) := by decide +kernel
theorem dL_leastSize_6 : decode cL_leastSize 6 = .ok (.lreturn, 1) := by decide +kernel
theorem dL_leastSize_7 : decode cL_leastSize 7 = .ok (.astore_n 2, 1) := by decide +kernel
theorem dL_leastSize_8 : decode cL_leastSize 8 = .ok (.ldc2_w 17, 3) := by decide +kernel
theorem dL_leastSize_11 : decode cL_leastSize 11 = .ok (.lreturn, 1) := by decide +kernel
theorem dL_quietIn_0 : decode cL_quietIn 0 = .ok (.aload_n 0, 1) := by decide +kernel
theorem dL_quietIn_1 : decode cL_quietIn 1 = .ok (.iload_n 1, 1) := by decide +kernel
theorem dL_quietIn_2 : decode cL_quietIn 2 = .ok (.invokevirtual 78, 3) := by decide +kernel
theorem dL_quietIn_5 : decode cL_quietIn 5 = .ok (.i2l, 1) := by decide +kernel
theorem dL_quietIn_6 : decode cL_quietIn 6 = .ok (.lreturn, 1) := by decide +kernel
theorem dL_quietIn_7 : decode cL_quietIn 7 = .ok (.astore_n 2, 1) := by decide +kernel
theorem dL_quietIn_8 : decode cL_quietIn 8 = .ok (.ldc2_w 17, 3) := by decide +kernel
theorem dL_quietIn_11 : decode cL_quietIn 11 = .ok (.lreturn, 1) := by decide +kernel
theorem dL_replay_0 : decode cL_replay 0 = .ok (.aload_n 0, 1) := by decide +kernel
theorem dL_replay_1 : decode cL_replay 1 = .ok (.iload_n 1, 1) := by decide +kernel
theorem dL_replay_2 : decode cL_replay 2 = .ok (.iload_n 2, 1) := by decide +kernel
theorem dL_replay_3 : decode cL_replay 3 = .ok (.iload_n 3, 1) := by decide +kernel
theorem dL_replay_4 : decode cL_replay 4 = .ok (.invokevirtual 81, 3) := by decide +kernel
theorem dL_replay_7 : decode cL_replay 7 = .ok (.i2l, 1) := by decide +kernel
theorem dL_replay_8 : decode cL_replay 8 = .ok (.lreturn, 1) := by decide +kernel
theorem dL_replay_9 : decode cL_replay 9 = .ok (.astore 4, 2) := by decide +kernel
theorem dL_replay_11 : decode cL_replay 11 = .ok (.ldc2_w 17, 3) := by decide +kernel
theorem dL_replay_14 : decode cL_replay 14 = .ok (.lreturn, 1) := by decide +kernel
theorem dL_bestWindow_0 : decode cL_bestWindow 0 = .ok (.aload_n 0, 1) := by decide +kernel
theorem dL_bestWindow_1 : decode cL_bestWindow 1 = .ok (.iload_n 1, 1) := by decide +kernel
theorem dL_bestWindow_2 : decode cL_bestWindow 2 = .ok (.invokevirtual 85, 3) := by decide +kernel
theorem dL_bestWindow_5 : decode cL_bestWindow 5 = .ok (.i2l, 1) := by decide +kernel
theorem dL_bestWindow_6 : decode cL_bestWindow 6 = .ok (.lreturn, 1) := by decide +kernel
theorem dL_bestWindow_7 : decode cL_bestWindow 7 = .ok (.astore_n 2, 1) := by decide +kernel
theorem dL_bestWindow_8 : decode cL_bestWindow 8 = .ok (.ldc2_w 17, 3) := by decide +kernel
theorem dL_bestWindow_11 : decode cL_bestWindow 11 = .ok (.lreturn, 1) := by decide +kernel
theorem dL_script_0 : decode cL_script 0 = .ok (.aload_n 0, 1) := by decide +kernel
theorem dL_script_1 : decode cL_script 1 = .ok (.iload_n 1, 1) := by decide +kernel
theorem dL_script_2 : decode cL_script 2 = .ok (.lload_n 2, 1) := by decide +kernel
theorem dL_script_3 : decode cL_script 3 = .ok (.invokevirtual 88, 3) := by decide +kernel
theorem dL_script_6 : decode cL_script 6 = .ok (.i2l, 1) := by decide +kernel
theorem dL_script_7 : decode cL_script 7 = .ok (.lreturn, 1) := by decide +kernel
theorem dL_script_8 : decode cL_script 8 = .ok (.astore 4, 2) := by decide +kernel
theorem dL_script_10 : decode cL_script 10 = .ok (.ldc2_w 17, 3) := by decide +kernel
theorem dL_script_13 : decode cL_script 13 = .ok (.lreturn, 1) := by decide +kernel
theorem dL_simulate_0 : decode cL_simulate 0 = .ok (.aload_n 0, 1) := by decide +kernel
theorem dL_simulate_1 : decode cL_simulate 1 = .ok (.lload_n 1, 1) := by decide +kernel
theorem dL_simulate_2 : decode cL_simulate 2 = .ok (.iload_n 3, 1) := by decide +kernel
theorem dL_simulate_3 : decode cL_simulate 3 = .ok (.invokevirtual 92, 3) := by decide +kernel
theorem dL_simulate_6 : decode cL_simulate 6 = .ok (.i2l, 1) := by decide +kernel
theorem dL_simulate_7 : decode cL_simulate 7 = .ok (.lreturn, 1) := by decide +kernel
theorem dL_simulate_8 : decode cL_simulate 8 = .ok (.astore 4, 2) := by decide +kernel
theorem dL_simulate_10 : decode cL_simulate 10 = .ok (.ldc2_w 17, 3) := by decide +kernel
theorem dL_simulate_13 : decode cL_simulate 13 = .ok (.lreturn, 1) := by decide +kernel
theorem dL_save_0 : decode cL_save 0 = .ok (.aload_n 0, 1) := by decide +kernel
theorem dL_save_1 : decode cL_save 1 = .ok (.iload_n 1, 1) := by decide +kernel
theorem dL_save_2 : decode cL_save 2 = .ok (.invokevirtual 96, 3) := by decide +kernel
theorem dL_save_5 : decode cL_save 5 = .ok (.i2l, 1) := by decide +kernel
theorem dL_save_6 : decode cL_save 6 = .ok (.lreturn, 1) := by decide +kernel
theorem dL_save_7 : decode cL_save 7 = .ok (.astore_n 2, 1) := by decide +kernel
theorem dL_save_8 : decode cL_save 8 = .ok (.ldc2_w 39, 3) := by decide +kernel
theorem dL_save_11 : decode cL_save 11 = .ok (.lreturn, 1) := by decide +kernel
theorem dL_restore_0 : decode cL_restore 0 = .ok (.aload_n 0, 1) := by decide +kernel
theorem dL_restore_1 : decode cL_restore 1 = .ok (.iload_n 1, 1) := by decide +kernel
theorem dL_restore_2 : decode cL_restore 2 = .ok (.invokevirtual 99, 3) := by decide +kernel
theorem dL_restore_5 : decode cL_restore 5 = .ok (.i2l, 1) := by decide +kernel
theorem dL_restore_6 : decode cL_restore 6 = .ok (.lreturn, 1) := by decide +kernel
theorem dL_restore_7 : decode cL_restore 7 = .ok (.astore_n 2, 1) := by decide +kernel
theorem dL_restore_8 : decode cL_restore 8 = .ok (.ldc2_w 39, 3) := by decide +kernel
theorem dL_restore_11 : decode cL_restore 11 = .ok (.lreturn, 1) := by decide +kernel
theorem dL_restore_12 : decode cL_restore 12 = .ok (.astore_n 2, 1) := by decide +kernel
theorem dL_restore_13 : decode cL_restore 13 = .ok (.ldc2_w 21, 3) := by decide +kernel
theorem dL_restore_16 : decode cL_restore 16 = .ok (.lreturn, 1) := by decide +kernel
theorem dL_now_0 : decode cL_now 0 = .ok (.ldc2_w 102, 3) := by decide +kernel
theorem dL_now_3 : decode cL_now 3 = .ok (.lstore_n 1, 1) := by decide +kernel
theorem dL_now_4 : decode cL_now 4 = .ok (.iconst 0, 1) := by decide +kernel
theorem dL_now_5 : decode cL_now 5 = .ok (.istore_n 3, 1) := by decide +kernel
theorem dL_now_6 : decode cL_now 6 = .ok (.iload_n 3, 1) := by decide +kernel
theorem dL_now_7 : decode cL_now 7 = .ok (.bipush 12, 2) := by decide +kernel
theorem dL_now_9 : decode cL_now 9 = .ok (.if_icmp .ge 21, 3) := by decide +kernel
theorem dL_now_12 : decode cL_now 12 = .ok (.ldc2_w 102, 3) := by decide +kernel
theorem dL_now_15 : decode cL_now 15 = .ok (.lload_n 1, 1) := by decide +kernel
theorem dL_now_16 : decode cL_now 16 = .ok (.lmul, 1) := by decide +kernel
theorem dL_now_17 : decode cL_now 17 = .ok (.aload_n 0, 1) := by decide +kernel
theorem dL_now_18 : decode cL_now 18 = .ok (.iload_n 3, 1) := by decide +kernel
theorem dL_now_19 : decode cL_now 19 = .ok (.invokestatic 104, 3) := by decide +kernel
theorem dL_now_22 : decode cL_now 22 = .ok (.ladd, 1) := by decide +kernel
theorem dL_now_23 : decode cL_now 23 = .ok (.lstore_n 1, 1) := by decide +kernel
theorem dL_now_24 : decode cL_now 24 = .ok (.iinc 3 1, 3) := by decide +kernel
theorem dL_now_27 : decode cL_now 27 = .ok (.goto (-21), 3) := by decide +kernel
theorem dL_now_30 : decode cL_now 30 = .ok (.iconst 0, 1) := by decide +kernel
theorem dL_now_31 : decode cL_now 31 = .ok (.istore_n 3, 1) := by decide +kernel
theorem dL_now_32 : decode cL_now 32 = .ok (.iload_n 3, 1) := by decide +kernel
theorem dL_now_33 : decode cL_now 33 = .ok (.iconst 5, 1) := by decide +kernel
theorem dL_now_34 : decode cL_now 34 = .ok (.if_icmp .ge 21, 3) := by decide +kernel
theorem dL_now_37 : decode cL_now 37 = .ok (.ldc2_w 102, 3) := by decide +kernel
theorem dL_now_40 : decode cL_now 40 = .ok (.lload_n 1, 1) := by decide +kernel
theorem dL_now_41 : decode cL_now 41 = .ok (.lmul, 1) := by decide +kernel
theorem dL_now_42 : decode cL_now 42 = .ok (.aload_n 0, 1) := by decide +kernel
theorem dL_now_43 : decode cL_now 43 = .ok (.iload_n 3, 1) := by decide +kernel
theorem dL_now_44 : decode cL_now 44 = .ok (.invokestatic 109, 3) := by decide +kernel
theorem dL_now_47 : decode cL_now 47 = .ok (.ladd, 1) := by decide +kernel
theorem dL_now_48 : decode cL_now 48 = .ok (.lstore_n 1, 1) := by decide +kernel
theorem dL_now_49 : decode cL_now 49 = .ok (.iinc 3 1, 3) := by decide +kernel
theorem dL_now_52 : decode cL_now 52 = .ok (.goto (-20), 3) := by decide +kernel
theorem dL_now_55 : decode cL_now 55 = .ok (.iconst 0, 1) := by decide +kernel
theorem dL_now_56 : decode cL_now 56 = .ok (.istore_n 3, 1) := by decide +kernel
theorem dL_now_57 : decode cL_now 57 = .ok (.iload_n 3, 1) := by decide +kernel
theorem dL_now_58 : decode cL_now 58 = .ok (.bipush 40, 2) := by decide +kernel
theorem dL_now_60 : decode cL_now 60 = .ok (.if_icmp .ge 26, 3) := by decide +kernel
theorem dL_now_63 : decode cL_now 63 = .ok (.ldc2_w 102, 3) := by decide +kernel
theorem dL_now_66 : decode cL_now 66 = .ok (.lload_n 1, 1) := by decide +kernel
theorem dL_now_67 : decode cL_now 67 = .ok (.lmul, 1) := by decide +kernel
theorem dL_now_68 : decode cL_now 68 = .ok (.aload_n 0, 1) := by decide +kernel
theorem dL_now_69 : decode cL_now 69 = .ok (.iload_n 3, 1) := by decide +kernel
theorem dL_now_70 : decode cL_now 70 = .ok (.iconst 5, 1) := by decide +kernel
theorem dL_now_71 : decode cL_now 71 = .ok (.idiv, 1) := by decide +kernel
theorem dL_now_72 : decode cL_now 72 = .ok (.iload_n 3, 1) := by decide +kernel
theorem dL_now_73 : decode cL_now 73 = .ok (.iconst 5, 1) := by decide +kernel
theorem dL_now_74 : decode cL_now 74 = .ok (.irem, 1) := by decide +kernel
theorem dL_now_75 : decode cL_now 75 = .ok (.invokestatic 111, 3) := by decide +kernel
theorem dL_now_78 : decode cL_now 78 = .ok (.ladd, 1) := by decide +kernel
theorem dL_now_79 : decode cL_now 79 = .ok (.lstore_n 1, 1) := by decide +kernel
theorem dL_now_80 : decode cL_now 80 = .ok (.iinc 3 1, 3) := by decide +kernel
theorem dL_now_83 : decode cL_now 83 = .ok (.goto (-26), 3) := by decide +kernel
theorem dL_now_86 : decode cL_now 86 = .ok (.iconst 0, 1) := by decide +kernel
theorem dL_now_87 : decode cL_now 87 = .ok (.istore_n 3, 1) := by decide +kernel
theorem dL_now_88 : decode cL_now 88 = .ok (.iload_n 3, 1) := by decide +kernel
theorem dL_now_89 : decode cL_now 89 = .ok (.iconst 4, 1) := by decide +kernel
theorem dL_now_90 : decode cL_now 90 = .ok (.if_icmp .ge 21, 3) := by decide +kernel
theorem dL_now_93 : decode cL_now 93 = .ok (.ldc2_w 102, 3) := by decide +kernel
theorem dL_now_96 : decode cL_now 96 = .ok (.lload_n 1, 1) := by decide +kernel
theorem dL_now_97 : decode cL_now 97 = .ok (.lmul, 1) := by decide +kernel
theorem dL_now_98 : decode cL_now 98 = .ok (.aload_n 0, 1) := by decide +kernel
theorem dL_now_99 : decode cL_now 99 = .ok (.iload_n 3, 1) := by decide +kernel
theorem dL_now_100 : decode cL_now 100 = .ok (.invokestatic 114, 3) := by decide +kernel
theorem dL_now_103 : decode cL_now 103 = .ok (.ladd, 1) := by decide +kernel
theorem dL_now_104 : decode cL_now 104 = .ok (.lstore_n 1, 1) := by decide +kernel
theorem dL_now_105 : decode cL_now 105 = .ok (.iinc 3 1, 3) := by decide +kernel
theorem dL_now_108 : decode cL_now 108 = .ok (.goto (-20), 3) := by decide +kernel
theorem dL_now_111 : decode cL_now 111 = .ok (.iconst 0, 1) := by decide +kernel
theorem dL_now_112 : decode cL_now 112 = .ok (.istore_n 3, 1) := by decide +kernel
theorem dL_now_113 : decode cL_now 113 = .ok (.iload_n 3, 1) := by decide +kernel
theorem dL_now_114 : decode cL_now 114 = .ok (.i2l, 1) := by decide +kernel
theorem dL_now_115 : decode cL_now 115 = .ok (.aload_n 0, 1) := by decide +kernel
theorem dL_now_116 : decode cL_now 116 = .ok (.bipush 10, 2) := by decide +kernel
theorem dL_now_118 : decode cL_now 118 = .ok (.invokestatic 104, 3) := by decide +kernel
theorem dL_now_121 : decode cL_now 121 = .ok (.lcmp, 1) := by decide +kernel
theorem dL_now_122 : decode cL_now 122 = .ok (.ifCond .ge 21, 3) := by decide +kernel
theorem dL_now_125 : decode cL_now 125 = .ok (.ldc2_w 102, 3) := by decide +kernel
theorem dL_now_128 : decode cL_now 128 = .ok (.lload_n 1, 1) := by decide +kernel
theorem dL_now_129 : decode cL_now 129 = .ok (.lmul, 1) := by decide +kernel
theorem dL_now_130 : decode cL_now 130 = .ok (.aload_n 0, 1) := by decide +kernel
theorem dL_now_131 : decode cL_now 131 = .ok (.iload_n 3, 1) := by decide +kernel
theorem dL_now_132 : decode cL_now 132 = .ok (.invokestatic 116, 3) := by decide +kernel
theorem dL_now_135 : decode cL_now 135 = .ok (.ladd, 1) := by decide +kernel
theorem dL_now_136 : decode cL_now 136 = .ok (.lstore_n 1, 1) := by decide +kernel
theorem dL_now_137 : decode cL_now 137 = .ok (.iinc 3 1, 3) := by decide +kernel
theorem dL_now_140 : decode cL_now 140 = .ok (.goto (-27), 3) := by decide +kernel
theorem dL_now_143 : decode cL_now 143 = .ok (.ldc2_w 102, 3) := by decide +kernel
theorem dL_now_146 : decode cL_now 146 = .ok (.lload_n 1, 1) := by decide +kernel
theorem dL_now_147 : decode cL_now 147 = .ok (.lmul, 1) := by decide +kernel
theorem dL_now_148 : decode cL_now 148 = .ok (.aload_n 0, 1) := by decide +kernel
theorem dL_now_149 : decode cL_now 149 = .ok (.invokevirtual 118, 3) := by decide +kernel
theorem dL_now_152 : decode cL_now 152 = .ok (.ladd, 1) := by decide +kernel
theorem dL_now_153 : decode cL_now 153 = .ok (.lreturn, 1) := by decide +kernel
theorem dL_errors_0 : decode cL_errors 0 = .ok (.aload_n 0, 1) := by decide +kernel
theorem dL_errors_1 : decode cL_errors 1 = .ok (.invokestatic 122, 3) := by decide +kernel
theorem dL_errors_4 : decode cL_errors 4 = .ok (.lstore_n 1, 1) := by decide +kernel
theorem dL_errors_5 : decode cL_errors 5 = .ok (.aload_n 0, 1) := by decide +kernel
theorem dL_errors_6 : decode cL_errors 6 = .ok (.iconst (-1), 1) := by decide +kernel
theorem dL_errors_7 : decode cL_errors 7 = .ok (.invokestatic 104, 3) := by decide +kernel
theorem dL_errors_10 : decode cL_errors 10 = .ok (.ldc2_w 17, 3) := by decide +kernel
theorem dL_errors_13 : decode cL_errors 13 = .ok (.lcmp, 1) := by decide +kernel
theorem dL_errors_14 : decode cL_errors 14 = .ok (.ifCond .ne 176, 3) := by decide +kernel
theorem dL_errors_17 : decode cL_errors 17 = .ok (.aload_n 0, 1) := by decide +kernel
theorem dL_errors_18 : decode cL_errors 18 = .ok (.bipush 12, 2) := by decide +kernel
theorem dL_errors_20 : decode cL_errors 20 = .ok (.invokestatic 104, 3) := by decide +kernel
theorem dL_errors_23 : decode cL_errors 23 = .ok (.ldc2_w 17, 3) := by decide +kernel
theorem dL_errors_26 : decode cL_errors 26 = .ok (.lcmp, 1) := by decide +kernel
theorem dL_errors_27 : decode cL_errors 27 = .ok (.ifCond .ne 163, 3) := by decide +kernel
theorem dL_errors_30 : decode cL_errors 30 = .ok (.aload_n 0, 1) := by decide +kernel
theorem dL_errors_31 : decode cL_errors 31 = .ok (.iconst 5, 1) := by decide +kernel
theorem dL_errors_32 : decode cL_errors 32 = .ok (.invokestatic 109, 3) := by decide +kernel
theorem dL_errors_35 : decode cL_errors 35 = .ok (.ldc2_w 17, 3) := by decide +kernel
theorem dL_errors_38 : decode cL_errors 38 = .ok (.lcmp, 1) := by decide +kernel
theorem dL_errors_39 : decode cL_errors 39 = .ok (.ifCond .ne 151, 3) := by decide +kernel
theorem dL_errors_42 : decode cL_errors 42 = .ok (.aload_n 0, 1) := by decide +kernel
theorem dL_errors_43 : decode cL_errors 43 = .ok (.bipush 8, 2) := by decide +kernel
theorem dL_errors_45 : decode cL_errors 45 = .ok (.bipush 9, 2) := by decide +kernel
theorem dL_errors_47 : decode cL_errors 47 = .ok (.invokestatic 111, 3) := by decide +kernel
theorem dL_errors_50 : decode cL_errors 50 = .ok (.ldc2_w 39, 3) := by decide +kernel
theorem dL_errors_53 : decode cL_errors 53 = .ok (.lcmp, 1) := by decide +kernel
theorem dL_errors_54 : decode cL_errors 54 = .ok (.ifCond .ne 136, 3) := by decide +kernel
theorem dL_errors_57 : decode cL_errors 57 = .ok (.aload_n 0, 1) := by decide +kernel
theorem dL_errors_58 : decode cL_errors 58 = .ok (.iconst (-1), 1) := by decide +kernel
theorem dL_errors_59 : decode cL_errors 59 = .ok (.iconst 0, 1) := by decide +kernel
theorem dL_errors_60 : decode cL_errors 60 = .ok (.invokestatic 111, 3) := by decide +kernel
theorem dL_errors_63 : decode cL_errors 63 = .ok (.ldc2_w 39, 3) := by decide +kernel
theorem dL_errors_66 : decode cL_errors 66 = .ok (.lcmp, 1) := by decide +kernel
theorem dL_errors_67 : decode cL_errors 67 = .ok (.ifCond .ne 123, 3) := by decide +kernel
theorem dL_errors_70 : decode cL_errors 70 = .ok (.aload_n 0, 1) := by decide +kernel
theorem dL_errors_71 : decode cL_errors 71 = .ok (.iconst 0, 1) := by decide +kernel
theorem dL_errors_72 : decode cL_errors 72 = .ok (.iconst 5, 1) := by decide +kernel
theorem dL_errors_73 : decode cL_errors 73 = .ok (.invokestatic 111, 3) := by decide +kernel
theorem dL_errors_76 : decode cL_errors 76 = .ok (.ldc2_w 17, 3) := by decide +kernel
theorem dL_errors_79 : decode cL_errors 79 = .ok (.lcmp, 1) := by decide +kernel
theorem dL_errors_80 : decode cL_errors 80 = .ok (.ifCond .ne 110, 3) := by decide +kernel
theorem dL_errors_83 : decode cL_errors 83 = .ok (.aload_n 0, 1) := by decide +kernel
theorem dL_errors_84 : decode cL_errors 84 = .ok (.iconst 4, 1) := by decide +kernel
theorem dL_errors_85 : decode cL_errors 85 = .ok (.invokestatic 114, 3) := by decide +kernel
theorem dL_errors_88 : decode cL_errors 88 = .ok (.ldc2_w 17, 3) := by decide +kernel
theorem dL_errors_91 : decode cL_errors 91 = .ok (.lcmp, 1) := by decide +kernel
theorem dL_errors_92 : decode cL_errors 92 = .ok (.ifCond .ne 98, 3) := by decide +kernel
theorem dL_errors_95 : decode cL_errors 95 = .ok (.aload_n 0, 1) := by decide +kernel
theorem dL_errors_96 : decode cL_errors 96 = .ok (.iconst (-1), 1) := by decide +kernel
theorem dL_errors_97 : decode cL_errors 97 = .ok (.invokestatic 116, 3) := by decide +kernel
theorem dL_errors_100 : decode cL_errors 100 = .ok (.ldc2_w 17, 3) := by decide +kernel
theorem dL_errors_103 : decode cL_errors 103 = .ok (.lcmp, 1) := by decide +kernel
theorem dL_errors_104 : decode cL_errors 104 = .ok (.ifCond .ne 86, 3) := by decide +kernel
theorem dL_errors_107 : decode cL_errors 107 = .ok (.aload_n 0, 1) := by decide +kernel
theorem dL_errors_108 : decode cL_errors 108 = .ok (.iconst 4, 1) := by decide +kernel
theorem dL_errors_109 : decode cL_errors 109 = .ok (.invokestatic 126, 3) := by decide +kernel
theorem dL_errors_112 : decode cL_errors 112 = .ok (.ldc2_w 17, 3) := by decide +kernel
theorem dL_errors_115 : decode cL_errors 115 = .ok (.lcmp, 1) := by decide +kernel
theorem dL_errors_116 : decode cL_errors 116 = .ok (.ifCond .ne 74, 3) := by decide +kernel
theorem dL_errors_119 : decode cL_errors 119 = .ok (.aload_n 0, 1) := by decide +kernel
theorem dL_errors_120 : decode cL_errors 120 = .ok (.iconst 0, 1) := by decide +kernel
theorem dL_errors_121 : decode cL_errors 121 = .ok (.iconst 0, 1) := by decide +kernel
theorem dL_errors_122 : decode cL_errors 122 = .ok (.invokestatic 128, 3) := by decide +kernel
theorem dL_errors_125 : decode cL_errors 125 = .ok (.ldc2_w 17, 3) := by decide +kernel
theorem dL_errors_128 : decode cL_errors 128 = .ok (.lcmp, 1) := by decide +kernel
theorem dL_errors_129 : decode cL_errors 129 = .ok (.ifCond .ne 61, 3) := by decide +kernel
theorem dL_errors_132 : decode cL_errors 132 = .ok (.aload_n 0, 1) := by decide +kernel
theorem dL_errors_133 : decode cL_errors 133 = .ok (.bipush 9, 2) := by decide +kernel
theorem dL_errors_135 : decode cL_errors 135 = .ok (.iconst 0, 1) := by decide +kernel
theorem dL_errors_136 : decode cL_errors 136 = .ok (.invokestatic 128, 3) := by decide +kernel
theorem dL_errors_139 : decode cL_errors 139 = .ok (.ldc2_w 17, 3) := by decide +kernel
theorem dL_errors_142 : decode cL_errors 142 = .ok (.lcmp, 1) := by decide +kernel
theorem dL_errors_143 : decode cL_errors 143 = .ok (.ifCond .ne 47, 3) := by decide +kernel
theorem dL_errors_146 : decode cL_errors 146 = .ok (.aload_n 0, 1) := by decide +kernel
theorem dL_errors_147 : decode cL_errors 147 = .ok (.iconst 2, 1) := by decide +kernel
theorem dL_errors_148 : decode cL_errors 148 = .ok (.bipush 100, 2) := by decide +kernel
theorem dL_errors_150 : decode cL_errors 150 = .ok (.invokestatic 128, 3) := by decide +kernel
theorem dL_errors_153 : decode cL_errors 153 = .ok (.ldc2_w 17, 3) := by decide +kernel
theorem dL_errors_156 : decode cL_errors 156 = .ok (.lcmp, 1) := by decide +kernel
theorem dL_errors_157 : decode cL_errors 157 = .ok (.ifCond .ne 33, 3) := by decide +kernel
theorem dL_errors_160 : decode cL_errors 160 = .ok (.aload_n 0, 1) := by decide +kernel
theorem dL_errors_161 : decode cL_errors 161 = .ok (.iconst 3, 1) := by decide +kernel
theorem dL_errors_162 : decode cL_errors 162 = .ok (.bipush 40, 2) := by decide +kernel
theorem dL_errors_164 : decode cL_errors 164 = .ok (.invokestatic 128, 3) := by decide +kernel
theorem dL_errors_167 : decode cL_errors 167 = .ok (.ldc2_w 17, 3) := by decide +kernel
theorem dL_errors_170 : decode cL_errors 170 = .ok (.lcmp, 1) := by decide +kernel
theorem dL_errors_171 : decode cL_errors 171 = .ok (.ifCond .ne 19, 3) := by decide +kernel
theorem dL_errors_174 : decode cL_errors 174 = .ok (.aload_n 0, 1) := by decide +kernel
theorem dL_errors_175 : decode cL_errors 175 = .ok (.iconst (-1), 1) := by decide +kernel
theorem dL_errors_176 : decode cL_errors 176 = .ok (.invokestatic 130, 3) := by decide +kernel
theorem dL_errors_179 : decode cL_errors 179 = .ok (.ldc2_w 17, 3) := by decide +kernel
theorem dL_errors_182 : decode cL_errors 182 = .ok (.lcmp, 1) := by decide +kernel
theorem dL_errors_183 : decode cL_errors 183 = .ok (.ifCond .ne 7, 3) := by decide +kernel
theorem dL_errors_186 : decode cL_errors 186 = .ok (.iconst 1, 1) := by decide +kernel
theorem dL_errors_187 : decode cL_errors 187 = .ok (.goto 4, 3) := by decide +kernel
theorem dL_errors_190 : decode cL_errors 190 = .ok (.iconst 0, 1) := by decide +kernel
theorem dL_errors_191 : decode cL_errors 191 = .ok (.istore_n 3, 1) := by decide +kernel
theorem dL_errors_192 : decode cL_errors 192 = .ok (.iload_n 3, 1) := by decide +kernel
theorem dL_errors_193 : decode cL_errors 193 = .ok (.ifCond .eq 196, 3) := by decide +kernel
theorem dL_errors_196 : decode cL_errors 196 = .ok (.aload_n 0, 1) := by decide +kernel
theorem dL_errors_197 : decode cL_errors 197 = .ok (.bipush 100, 2) := by decide +kernel
theorem dL_errors_199 : decode cL_errors 199 = .ok (.iconst 1, 1) := by decide +kernel
theorem dL_errors_200 : decode cL_errors 200 = .ok (.invokestatic 132, 3) := by decide +kernel
theorem dL_errors_203 : decode cL_errors 203 = .ok (.ldc2_w 17, 3) := by decide +kernel
theorem dL_errors_206 : decode cL_errors 206 = .ok (.lcmp, 1) := by decide +kernel
theorem dL_errors_207 : decode cL_errors 207 = .ok (.ifCond .ne 182, 3) := by decide +kernel
theorem dL_errors_210 : decode cL_errors 210 = .ok (.aload_n 0, 1) := by decide +kernel
theorem dL_errors_211 : decode cL_errors 211 = .ok (.iconst 0, 1) := by decide +kernel
theorem dL_errors_212 : decode cL_errors 212 = .ok (.iconst 0, 1) := by decide +kernel
theorem dL_errors_213 : decode cL_errors 213 = .ok (.invokestatic 132, 3) := by decide +kernel
theorem dL_errors_216 : decode cL_errors 216 = .ok (.ldc2_w 17, 3) := by decide +kernel
theorem dL_errors_219 : decode cL_errors 219 = .ok (.lcmp, 1) := by decide +kernel
theorem dL_errors_220 : decode cL_errors 220 = .ok (.ifCond .ne 169, 3) := by decide +kernel
theorem dL_errors_223 : decode cL_errors 223 = .ok (.aload_n 0, 1) := by decide +kernel
theorem dL_errors_224 : decode cL_errors 224 = .ok (.iconst 0, 1) := by decide +kernel
theorem dL_errors_225 : decode cL_errors 225 = .ok (.invokestatic 134, 3) := by decide +kernel
theorem dL_errors_228 : decode cL_errors 228 = .ok (.ldc2_w 17, 3) := by decide +kernel
theorem dL_errors_231 : decode cL_errors 231 = .ok (.lcmp, 1) := by decide +kernel
theorem dL_errors_232 : decode cL_errors 232 = .ok (.ifCond .ne 157, 3) := by decide +kernel
theorem dL_errors_235 : decode cL_errors 235 = .ok (.aload_n 0, 1) := by decide +kernel
theorem dL_errors_236 : decode cL_errors 236 = .ok (.iconst 0, 1) := by decide +kernel
theorem dL_errors_237 : decode cL_errors 237 = .ok (.bipush 41, 2) := by decide +kernel
theorem dL_errors_239 : decode cL_errors 239 = .ok (.invokestatic 136, 3) := by decide +kernel
theorem dL_errors_242 : decode cL_errors 242 = .ok (.ldc2_w 17, 3) := by decide +kernel
theorem dL_errors_245 : decode cL_errors 245 = .ok (.lcmp, 1) := by decide +kernel
theorem dL_errors_246 : decode cL_errors 246 = .ok (.ifCond .ne 143, 3) := by decide +kernel
theorem dL_errors_249 : decode cL_errors 249 = .ok (.aload_n 0, 1) := by decide +kernel
theorem dL_errors_250 : decode cL_errors 250 = .ok (.iconst 2, 1) := by decide +kernel
theorem dL_errors_251 : decode cL_errors 251 = .ok (.iconst 0, 1) := by decide +kernel
theorem dL_errors_252 : decode cL_errors 252 = .ok (.invokestatic 136, 3) := by decide +kernel
theorem dL_errors_255 : decode cL_errors 255 = .ok (.ldc2_w 17, 3) := by decide +kernel
theorem dL_errors_258 : decode cL_errors 258 = .ok (.lcmp, 1) := by decide +kernel
theorem dL_errors_259 : decode cL_errors 259 = .ok (.ifCond .ne 130, 3) := by decide +kernel
theorem dL_errors_262 : decode cL_errors 262 = .ok (.aload_n 0, 1) := by decide +kernel
theorem dL_errors_263 : decode cL_errors 263 = .ok (.iconst 4, 1) := by decide +kernel
theorem dL_errors_264 : decode cL_errors 264 = .ok (.sipush 499, 3) := by decide +kernel
theorem dL_errors_267 : decode cL_errors 267 = .ok (.invokestatic 136, 3) := by decide +kernel
theorem dL_errors_270 : decode cL_errors 270 = .ok (.ldc2_w 17, 3) := by decide +kernel
theorem dL_errors_273 : decode cL_errors 273 = .ok (.lcmp, 1) := by decide +kernel
theorem dL_errors_274 : decode cL_errors 274 = .ok (.ifCond .ne 115, 3) := by decide +kernel
theorem dL_errors_277 : decode cL_errors 277 = .ok (.aload_n 0, 1) := by decide +kernel
theorem dL_errors_278 : decode cL_errors 278 = .ok (.iconst 5, 1) := by decide +kernel
theorem dL_errors_279 : decode cL_errors 279 = .ok (.iconst 1, 1) := by decide +kernel
theorem dL_errors_280 : decode cL_errors 280 = .ok (.invokestatic 136, 3) := by decide +kernel
theorem dL_errors_283 : decode cL_errors 283 = .ok (.ldc2_w 17, 3) := by decide +kernel
theorem dL_errors_286 : decode cL_errors 286 = .ok (.lcmp, 1) := by decide +kernel
theorem dL_errors_287 : decode cL_errors 287 = .ok (.ifCond .ne 102, 3) := by decide +kernel
theorem dL_errors_290 : decode cL_errors 290 = .ok (.aload_n 0, 1) := by decide +kernel
theorem dL_errors_291 : decode cL_errors 291 = .ok (.iconst 0, 1) := by decide +kernel
theorem dL_errors_292 : decode cL_errors 292 = .ok (.iconst 0, 1) := by decide +kernel
theorem dL_errors_293 : decode cL_errors 293 = .ok (.invokestatic 138, 3) := by decide +kernel
theorem dL_errors_296 : decode cL_errors 296 = .ok (.ldc2_w 39, 3) := by decide +kernel
theorem dL_errors_299 : decode cL_errors 299 = .ok (.lcmp, 1) := by decide +kernel
theorem dL_errors_300 : decode cL_errors 300 = .ok (.ifCond .ne 89, 3) := by decide +kernel
theorem dL_errors_303 : decode cL_errors 303 = .ok (.aload_n 0, 1) := by decide +kernel
theorem dL_errors_304 : decode cL_errors 304 = .ok (.bipush 8, 2) := by decide +kernel
theorem dL_errors_306 : decode cL_errors 306 = .ok (.bipush 9, 2) := by decide +kernel
theorem dL_errors_308 : decode cL_errors 308 = .ok (.invokestatic 138, 3) := by decide +kernel
theorem dL_errors_311 : decode cL_errors 311 = .ok (.ldc2_w 39, 3) := by decide +kernel
theorem dL_errors_314 : decode cL_errors 314 = .ok (.lcmp, 1) := by decide +kernel
theorem dL_errors_315 : decode cL_errors 315 = .ok (.ifCond .ne 74, 3) := by decide +kernel
theorem dL_errors_318 : decode cL_errors 318 = .ok (.aload_n 0, 1) := by decide +kernel
theorem dL_errors_319 : decode cL_errors 319 = .ok (.iconst 1, 1) := by decide +kernel
theorem dL_errors_320 : decode cL_errors 320 = .ok (.iconst 0, 1) := by decide +kernel
theorem dL_errors_321 : decode cL_errors 321 = .ok (.invokestatic 138, 3) := by decide +kernel
theorem dL_errors_324 : decode cL_errors 324 = .ok (.ldc2_w 17, 3) := by decide +kernel
theorem dL_errors_327 : decode cL_errors 327 = .ok (.lcmp, 1) := by decide +kernel
theorem dL_errors_328 : decode cL_errors 328 = .ok (.ifCond .ne 61, 3) := by decide +kernel
theorem dL_errors_331 : decode cL_errors 331 = .ok (.aload_n 0, 1) := by decide +kernel
theorem dL_errors_332 : decode cL_errors 332 = .ok (.bipush 7, 2) := by decide +kernel
theorem dL_errors_334 : decode cL_errors 334 = .ok (.sipush 5001, 3) := by decide +kernel
theorem dL_errors_337 : decode cL_errors 337 = .ok (.invokestatic 138, 3) := by decide +kernel
theorem dL_errors_340 : decode cL_errors 340 = .ok (.ldc2_w 17, 3) := by decide +kernel
theorem dL_errors_343 : decode cL_errors 343 = .ok (.lcmp, 1) := by decide +kernel
theorem dL_errors_344 : decode cL_errors 344 = .ok (.ifCond .ne 45, 3) := by decide +kernel
theorem dL_errors_347 : decode cL_errors 347 = .ok (.aload_n 0, 1) := by decide +kernel
theorem dL_errors_348 : decode cL_errors 348 = .ok (.iconst 2, 1) := by decide +kernel
theorem dL_errors_349 : decode cL_errors 349 = .ok (.aload_n 0, 1) := by decide +kernel
theorem dL_errors_350 : decode cL_errors 350 = .ok (.iconst 1, 1) := by decide +kernel
theorem dL_errors_351 : decode cL_errors 351 = .ok (.iconst 0, 1) := by decide +kernel
theorem dL_errors_352 : decode cL_errors 352 = .ok (.invokestatic 111, 3) := by decide +kernel
theorem dL_errors_355 : decode cL_errors 355 = .ok (.l2i, 1) := by decide +kernel
theorem dL_errors_356 : decode cL_errors 356 = .ok (.invokestatic 138, 3) := by decide +kernel
theorem dL_errors_359 : decode cL_errors 359 = .ok (.ldc2_w 21, 3) := by decide +kernel
theorem dL_errors_362 : decode cL_errors 362 = .ok (.lcmp, 1) := by decide +kernel
theorem dL_errors_363 : decode cL_errors 363 = .ok (.ifCond .ne 26, 3) := by decide +kernel
theorem dL_errors_366 : decode cL_errors 366 = .ok (.aload_n 0, 1) := by decide +kernel
theorem dL_errors_367 : decode cL_errors 367 = .ok (.iconst 2, 1) := by decide +kernel
theorem dL_errors_368 : decode cL_errors 368 = .ok (.aload_n 0, 1) := by decide +kernel
theorem dL_errors_369 : decode cL_errors 369 = .ok (.iconst 3, 1) := by decide +kernel
theorem dL_errors_370 : decode cL_errors 370 = .ok (.iconst 0, 1) := by decide +kernel
theorem dL_errors_371 : decode cL_errors 371 = .ok (.invokestatic 111, 3) := by decide +kernel
theorem dL_errors_374 : decode cL_errors 374 = .ok (.l2i, 1) := by decide +kernel
theorem dL_errors_375 : decode cL_errors 375 = .ok (.invokestatic 138, 3) := by decide +kernel
theorem dL_errors_378 : decode cL_errors 378 = .ok (.ldc2_w 21, 3) := by decide +kernel
theorem dL_errors_381 : decode cL_errors 381 = .ok (.lcmp, 1) := by decide +kernel
theorem dL_errors_382 : decode cL_errors 382 = .ok (.ifCond .ne 7, 3) := by decide +kernel
theorem dL_errors_385 : decode cL_errors 385 = .ok (.iconst 1, 1) := by decide +kernel
theorem dL_errors_386 : decode cL_errors 386 = .ok (.goto 4, 3) := by decide +kernel
theorem dL_errors_389 : decode cL_errors 389 = .ok (.iconst 0, 1) := by decide +kernel
theorem dL_errors_390 : decode cL_errors 390 = .ok (.istore_n 3, 1) := by decide +kernel
theorem dL_errors_391 : decode cL_errors 391 = .ok (.iload_n 3, 1) := by decide +kernel
theorem dL_errors_392 : decode cL_errors 392 = .ok (.ifCond .eq 172, 3) := by decide +kernel
theorem dL_errors_395 : decode cL_errors 395 = .ok (.aload_n 0, 1) := by decide +kernel
theorem dL_errors_396 : decode cL_errors 396 = .ok (.iconst (-1), 1) := by decide +kernel
theorem dL_errors_397 : decode cL_errors 397 = .ok (.iconst 5, 1) := by decide +kernel
theorem dL_errors_398 : decode cL_errors 398 = .ok (.invokestatic 140, 3) := by decide +kernel
theorem dL_errors_401 : decode cL_errors 401 = .ok (.ldc2_w 17, 3) := by decide +kernel
theorem dL_errors_404 : decode cL_errors 404 = .ok (.lcmp, 1) := by decide +kernel
theorem dL_errors_405 : decode cL_errors 405 = .ok (.ifCond .ne 159, 3) := by decide +kernel
theorem dL_errors_408 : decode cL_errors 408 = .ok (.aload_n 0, 1) := by decide +kernel
theorem dL_errors_409 : decode cL_errors 409 = .ok (.bipush 100, 2) := by decide +kernel
theorem dL_errors_411 : decode cL_errors 411 = .ok (.invokestatic 142, 3) := by decide +kernel
theorem dL_errors_414 : decode cL_errors 414 = .ok (.ldc2_w 17, 3) := by decide +kernel
theorem dL_errors_417 : decode cL_errors 417 = .ok (.lcmp, 1) := by decide +kernel
theorem dL_errors_418 : decode cL_errors 418 = .ok (.ifCond .ne 146, 3) := by decide +kernel
theorem dL_errors_421 : decode cL_errors 421 = .ok (.aload_n 0, 1) := by decide +kernel
theorem dL_errors_422 : decode cL_errors 422 = .ok (.iconst (-1), 1) := by decide +kernel
theorem dL_errors_423 : decode cL_errors 423 = .ok (.invokestatic 144, 3) := by decide +kernel
theorem dL_errors_426 : decode cL_errors 426 = .ok (.ldc2_w 17, 3) := by decide +kernel
theorem dL_errors_429 : decode cL_errors 429 = .ok (.lcmp, 1) := by decide +kernel
theorem dL_errors_430 : decode cL_errors 430 = .ok (.ifCond .ne 134, 3) := by decide +kernel
theorem dL_errors_433 : decode cL_errors 433 = .ok (.aload_n 0, 1) := by decide +kernel
theorem dL_errors_434 : decode cL_errors 434 = .ok (.iconst 3, 1) := by decide +kernel
theorem dL_errors_435 : decode cL_errors 435 = .ok (.bipush 10, 2) := by decide +kernel
theorem dL_errors_437 : decode cL_errors 437 = .ok (.iconst 0, 1) := by decide +kernel
theorem dL_errors_438 : decode cL_errors 438 = .ok (.invokestatic 146, 3) := by decide +kernel
theorem dL_errors_441 : decode cL_errors 441 = .ok (.ldc2_w 17, 3) := by decide +kernel
theorem dL_errors_444 : decode cL_errors 444 = .ok (.lcmp, 1) := by decide +kernel
theorem dL_errors_445 : decode cL_errors 445 = .ok (.ifCond .ne 119, 3) := by decide +kernel
theorem dL_errors_448 : decode cL_errors 448 = .ok (.aload_n 0, 1) := by decide +kernel
theorem dL_errors_449 : decode cL_errors 449 = .ok (.iconst 3, 1) := by decide +kernel
theorem dL_errors_450 : decode cL_errors 450 = .ok (.iconst 4, 1) := by decide +kernel
theorem dL_errors_451 : decode cL_errors 451 = .ok (.iconst 4, 1) := by decide +kernel
theorem dL_errors_452 : decode cL_errors 452 = .ok (.invokestatic 146, 3) := by decide +kernel
theorem dL_errors_455 : decode cL_errors 455 = .ok (.ldc2_w 17, 3) := by decide +kernel
theorem dL_errors_458 : decode cL_errors 458 = .ok (.lcmp, 1) := by decide +kernel
theorem dL_errors_459 : decode cL_errors 459 = .ok (.ifCond .ne 105, 3) := by decide +kernel
theorem dL_errors_462 : decode cL_errors 462 = .ok (.aload_n 0, 1) := by decide +kernel
theorem dL_errors_463 : decode cL_errors 463 = .ok (.iconst 3, 1) := by decide +kernel
theorem dL_errors_464 : decode cL_errors 464 = .ok (.invokestatic 149, 3) := by decide +kernel
theorem dL_errors_467 : decode cL_errors 467 = .ok (.ldc2_w 17, 3) := by decide +kernel
theorem dL_errors_470 : decode cL_errors 470 = .ok (.lcmp, 1) := by decide +kernel
theorem dL_errors_471 : decode cL_errors 471 = .ok (.ifCond .ne 93, 3) := by decide +kernel
theorem dL_errors_474 : decode cL_errors 474 = .ok (.aload_n 0, 1) := by decide +kernel
theorem dL_errors_475 : decode cL_errors 475 = .ok (.iconst 0, 1) := by decide +kernel
theorem dL_errors_476 : decode cL_errors 476 = .ok (.lconst 0, 1) := by decide +kernel
theorem dL_errors_477 : decode cL_errors 477 = .ok (.invokestatic 151, 3) := by decide +kernel
theorem dL_errors_480 : decode cL_errors 480 = .ok (.ldc2_w 17, 3) := by decide +kernel
theorem dL_errors_483 : decode cL_errors 483 = .ok (.lcmp, 1) := by decide +kernel
theorem dL_errors_484 : decode cL_errors 484 = .ok (.ifCond .ne 80, 3) := by decide +kernel
theorem dL_errors_487 : decode cL_errors 487 = .ok (.aload_n 0, 1) := by decide +kernel
theorem dL_errors_488 : decode cL_errors 488 = .ok (.iconst 3, 1) := by decide +kernel
theorem dL_errors_489 : decode cL_errors 489 = .ok (.ldc2_w 155, 3) := by decide +kernel
theorem dL_errors_492 : decode cL_errors 492 = .ok (.invokestatic 151, 3) := by decide +kernel
theorem dL_errors_495 : decode cL_errors 495 = .ok (.ldc2_w 17, 3) := by decide +kernel
theorem dL_errors_498 : decode cL_errors 498 = .ok (.lcmp, 1) := by decide +kernel
theorem dL_errors_499 : decode cL_errors 499 = .ok (.ifCond .ne 65, 3) := by decide +kernel
theorem dL_errors_502 : decode cL_errors 502 = .ok (.aload_n 0, 1) := by decide +kernel
theorem dL_errors_503 : decode cL_errors 503 = .ok (.lconst 1, 1) := by decide +kernel
theorem dL_errors_504 : decode cL_errors 504 = .ok (.iconst 0, 1) := by decide +kernel
theorem dL_errors_505 : decode cL_errors 505 = .ok (.invokestatic 157, 3) := by decide +kernel
theorem dL_errors_508 : decode cL_errors 508 = .ok (.ldc2_w 17, 3) := by decide +kernel
theorem dL_errors_511 : decode cL_errors 511 = .ok (.lcmp, 1) := by decide +kernel
theorem dL_errors_512 : decode cL_errors 512 = .ok (.ifCond .ne 52, 3) := by decide +kernel
theorem dL_errors_515 : decode cL_errors 515 = .ok (.aload_n 0, 1) := by decide +kernel
theorem dL_errors_516 : decode cL_errors 516 = .ok (.iconst 2, 1) := by decide +kernel
theorem dL_errors_517 : decode cL_errors 517 = .ok (.invokestatic 160, 3) := by decide +kernel
theorem dL_errors_520 : decode cL_errors 520 = .ok (.ldc2_w 39, 3) := by decide +kernel
theorem dL_errors_523 : decode cL_errors 523 = .ok (.lcmp, 1) := by decide +kernel
theorem dL_errors_524 : decode cL_errors 524 = .ok (.ifCond .ne 40, 3) := by decide +kernel
theorem dL_errors_527 : decode cL_errors 527 = .ok (.aload_n 0, 1) := by decide +kernel
theorem dL_errors_528 : decode cL_errors 528 = .ok (.iconst 2, 1) := by decide +kernel
theorem dL_errors_529 : decode cL_errors 529 = .ok (.invokestatic 162, 3) := by decide +kernel
theorem dL_errors_532 : decode cL_errors 532 = .ok (.ldc2_w 39, 3) := by decide +kernel
theorem dL_errors_535 : decode cL_errors 535 = .ok (.lcmp, 1) := by decide +kernel
theorem dL_errors_536 : decode cL_errors 536 = .ok (.ifCond .ne 28, 3) := by decide +kernel
theorem dL_errors_539 : decode cL_errors 539 = .ok (.aload_n 0, 1) := by decide +kernel
theorem dL_errors_540 : decode cL_errors 540 = .ok (.iconst (-1), 1) := by decide +kernel
theorem dL_errors_541 : decode cL_errors 541 = .ok (.invokestatic 164, 3) := by decide +kernel
theorem dL_errors_544 : decode cL_errors 544 = .ok (.ldc2_w 17, 3) := by decide +kernel
theorem dL_errors_547 : decode cL_errors 547 = .ok (.lcmp, 1) := by decide +kernel
theorem dL_errors_548 : decode cL_errors 548 = .ok (.ifCond .ne 16, 3) := by decide +kernel
theorem dL_errors_551 : decode cL_errors 551 = .ok (.aload_n 0, 1) := by decide +kernel
theorem dL_errors_552 : decode cL_errors 552 = .ok (.invokestatic 122, 3) := by decide +kernel
theorem dL_errors_555 : decode cL_errors 555 = .ok (.lload_n 1, 1) := by decide +kernel
theorem dL_errors_556 : decode cL_errors 556 = .ok (.lcmp, 1) := by decide +kernel
theorem dL_errors_557 : decode cL_errors 557 = .ok (.ifCond .ne 7, 3) := by decide +kernel
theorem dL_errors_560 : decode cL_errors 560 = .ok (.iconst 1, 1) := by decide +kernel
theorem dL_errors_561 : decode cL_errors 561 = .ok (.goto 4, 3) := by decide +kernel
theorem dL_errors_564 : decode cL_errors 564 = .ok (.iconst 0, 1) := by decide +kernel
theorem dL_errors_565 : decode cL_errors 565 = .ok (.ireturn, 1) := by decide +kernel
theorem dL_kept_0 : decode cL_kept 0 = .ok (.lconst 0, 1) := by decide +kernel
theorem dL_kept_1 : decode cL_kept 1 = .ok (.lstore_n 1, 1) := by decide +kernel
theorem dL_kept_2 : decode cL_kept 2 = .ok (.iconst 0, 1) := by decide +kernel
theorem dL_kept_3 : decode cL_kept 3 = .ok (.istore_n 3, 1) := by decide +kernel
theorem dL_kept_4 : decode cL_kept 4 = .ok (.iload_n 3, 1) := by decide +kernel
theorem dL_kept_5 : decode cL_kept 5 = .ok (.iconst 4, 1) := by decide +kernel
theorem dL_kept_6 : decode cL_kept 6 = .ok (.if_icmp .ge 19, 3) := by decide +kernel
theorem dL_kept_9 : decode cL_kept 9 = .ok (.lload_n 1, 1) := by decide +kernel
theorem dL_kept_10 : decode cL_kept 10 = .ok (.aload_n 0, 1) := by decide +kernel
theorem dL_kept_11 : decode cL_kept 11 = .ok (.iconst 2, 1) := by decide +kernel
theorem dL_kept_12 : decode cL_kept 12 = .ok (.iload_n 3, 1) := by decide +kernel
theorem dL_kept_13 : decode cL_kept 13 = .ok (.iadd, 1) := by decide +kernel
theorem dL_kept_14 : decode cL_kept 14 = .ok (.invokestatic 104, 3) := by decide +kernel
theorem dL_kept_17 : decode cL_kept 17 = .ok (.ladd, 1) := by decide +kernel
theorem dL_kept_18 : decode cL_kept 18 = .ok (.lstore_n 1, 1) := by decide +kernel
theorem dL_kept_19 : decode cL_kept 19 = .ok (.iinc 3 1, 3) := by decide +kernel
theorem dL_kept_22 : decode cL_kept 22 = .ok (.goto (-18), 3) := by decide +kernel
theorem dL_kept_25 : decode cL_kept 25 = .ok (.aload_n 0, 1) := by decide +kernel
theorem dL_kept_26 : decode cL_kept 26 = .ok (.bipush 11, 2) := by decide +kernel
theorem dL_kept_28 : decode cL_kept 28 = .ok (.invokestatic 104, 3) := by decide +kernel
theorem dL_kept_31 : decode cL_kept 31 = .ok (.lconst 1, 1) := by decide +kernel
theorem dL_kept_32 : decode cL_kept 32 = .ok (.lcmp, 1) := by decide +kernel
theorem dL_kept_33 : decode cL_kept 33 = .ok (.ifCond .ne 7, 3) := by decide +kernel
theorem dL_kept_36 : decode cL_kept 36 = .ok (.iconst 1, 1) := by decide +kernel
theorem dL_kept_37 : decode cL_kept 37 = .ok (.goto 4, 3) := by decide +kernel
theorem dL_kept_40 : decode cL_kept 40 = .ok (.iconst 0, 1) := by decide +kernel
theorem dL_kept_41 : decode cL_kept 41 = .ok (.istore_n 3, 1) := by decide +kernel
theorem dL_kept_42 : decode cL_kept 42 = .ok (.lload_n 1, 1) := by decide +kernel
theorem dL_kept_43 : decode cL_kept 43 = .ok (.aload_n 0, 1) := by decide +kernel
theorem dL_kept_44 : decode cL_kept 44 = .ok (.iconst 1, 1) := by decide +kernel
theorem dL_kept_45 : decode cL_kept 45 = .ok (.invokestatic 104, 3) := by decide +kernel
theorem dL_kept_48 : decode cL_kept 48 = .ok (.lcmp, 1) := by decide +kernel
theorem dL_kept_49 : decode cL_kept 49 = .ok (.ifCond .ne 57, 3) := by decide +kernel
theorem dL_kept_52 : decode cL_kept 52 = .ok (.aload_n 0, 1) := by decide +kernel
theorem dL_kept_53 : decode cL_kept 53 = .ok (.bipush 10, 2) := by decide +kernel
theorem dL_kept_55 : decode cL_kept 55 = .ok (.invokestatic 104, 3) := by decide +kernel
theorem dL_kept_58 : decode cL_kept 58 = .ok (.lload_n 1, 1) := by decide +kernel
theorem dL_kept_59 : decode cL_kept 59 = .ok (.ldc2_w 166, 3) := by decide +kernel
theorem dL_kept_62 : decode cL_kept 62 = .ok (.lcmp, 1) := by decide +kernel
theorem dL_kept_63 : decode cL_kept 63 = .ok (.ifCond .ge 7, 3) := by decide +kernel
theorem dL_kept_66 : decode cL_kept 66 = .ok (.lload_n 1, 1) := by decide +kernel
theorem dL_kept_67 : decode cL_kept 67 = .ok (.goto 6, 3) := by decide +kernel
theorem dL_kept_70 : decode cL_kept 70 = .ok (.ldc2_w 166, 3) := by decide +kernel
theorem dL_kept_73 : decode cL_kept 73 = .ok (.lcmp, 1) := by decide +kernel
theorem dL_kept_74 : decode cL_kept 74 = .ok (.ifCond .ne 32, 3) := by decide +kernel
theorem dL_kept_77 : decode cL_kept 77 = .ok (.aload_n 0, 1) := by decide +kernel
theorem dL_kept_78 : decode cL_kept 78 = .ok (.bipush 9, 2) := by decide +kernel
theorem dL_kept_80 : decode cL_kept 80 = .ok (.invokestatic 104, 3) := by decide +kernel
theorem dL_kept_83 : decode cL_kept 83 = .ok (.lload_n 1, 1) := by decide +kernel
theorem dL_kept_84 : decode cL_kept 84 = .ok (.ldc2_w 168, 3) := by decide +kernel
theorem dL_kept_87 : decode cL_kept 87 = .ok (.lcmp, 1) := by decide +kernel
theorem dL_kept_88 : decode cL_kept 88 = .ok (.ifCond .ge 7, 3) := by decide +kernel
theorem dL_kept_91 : decode cL_kept 91 = .ok (.lload_n 1, 1) := by decide +kernel
theorem dL_kept_92 : decode cL_kept 92 = .ok (.goto 6, 3) := by decide +kernel
theorem dL_kept_95 : decode cL_kept 95 = .ok (.ldc2_w 168, 3) := by decide +kernel
theorem dL_kept_98 : decode cL_kept 98 = .ok (.lcmp, 1) := by decide +kernel
theorem dL_kept_99 : decode cL_kept 99 = .ok (.ifCond .ne 7, 3) := by decide +kernel
theorem dL_kept_102 : decode cL_kept 102 = .ok (.iconst 1, 1) := by decide +kernel
theorem dL_kept_103 : decode cL_kept 103 = .ok (.goto 4, 3) := by decide +kernel
theorem dL_kept_106 : decode cL_kept 106 = .ok (.iconst 0, 1) := by decide +kernel
theorem dL_kept_107 : decode cL_kept 107 = .ok (.istore 4, 2) := by decide +kernel
theorem dL_kept_109 : decode cL_kept 109 = .ok (.lconst 0, 1) := by decide +kernel
theorem dL_kept_110 : decode cL_kept 110 = .ok (.lstore 5, 2) := by decide +kernel
theorem dL_kept_112 : decode cL_kept 112 = .ok (.lconst 0, 1) := by decide +kernel
theorem dL_kept_113 : decode cL_kept 113 = .ok (.lstore 7, 2) := by decide +kernel
theorem dL_kept_115 : decode cL_kept 115 = .ok (.lconst 0, 1) := by decide +kernel
theorem dL_kept_116 : decode cL_kept 116 = .ok (.lstore 9, 2) := by decide +kernel
theorem dL_kept_118 : decode cL_kept 118 = .ok (.iconst 0, 1) := by decide +kernel
theorem dL_kept_119 : decode cL_kept 119 = .ok (.istore 11, 2) := by decide +kernel
theorem dL_kept_121 : decode cL_kept 121 = .ok (.iload 11, 2) := by decide +kernel
theorem dL_kept_123 : decode cL_kept 123 = .ok (.bipush 8, 2) := by decide +kernel
theorem dL_kept_125 : decode cL_kept 125 = .ok (.if_icmp .ge 167, 3) := by decide +kernel
theorem dL_kept_128 : decode cL_kept 128 = .ok (.iload 4, 2) := by decide +kernel
theorem dL_kept_130 : decode cL_kept 130 = .ok (.ifCond .eq 162, 3) := by decide +kernel
theorem dL_kept_133 : decode cL_kept 133 = .ok (.lload 5, 2) := by decide +kernel
theorem dL_kept_135 : decode cL_kept 135 = .ok (.aload_n 0, 1) := by decide +kernel
theorem dL_kept_136 : decode cL_kept 136 = .ok (.iload 11, 2) := by decide +kernel
theorem dL_kept_138 : decode cL_kept 138 = .ok (.iconst 2, 1) := by decide +kernel
theorem dL_kept_139 : decode cL_kept 139 = .ok (.invokestatic 111, 3) := by decide +kernel
theorem dL_kept_142 : decode cL_kept 142 = .ok (.ladd, 1) := by decide +kernel
theorem dL_kept_143 : decode cL_kept 143 = .ok (.lstore 5, 2) := by decide +kernel
theorem dL_kept_145 : decode cL_kept 145 = .ok (.lload 7, 2) := by decide +kernel
theorem dL_kept_147 : decode cL_kept 147 = .ok (.aload_n 0, 1) := by decide +kernel
theorem dL_kept_148 : decode cL_kept 148 = .ok (.iload 11, 2) := by decide +kernel
theorem dL_kept_150 : decode cL_kept 150 = .ok (.iconst 3, 1) := by decide +kernel
theorem dL_kept_151 : decode cL_kept 151 = .ok (.invokestatic 111, 3) := by decide +kernel
theorem dL_kept_154 : decode cL_kept 154 = .ok (.ladd, 1) := by decide +kernel
theorem dL_kept_155 : decode cL_kept 155 = .ok (.lstore 7, 2) := by decide +kernel
theorem dL_kept_157 : decode cL_kept 157 = .ok (.lload 9, 2) := by decide +kernel
theorem dL_kept_159 : decode cL_kept 159 = .ok (.aload_n 0, 1) := by decide +kernel
theorem dL_kept_160 : decode cL_kept 160 = .ok (.iload 11, 2) := by decide +kernel
theorem dL_kept_162 : decode cL_kept 162 = .ok (.iconst 4, 1) := by decide +kernel
theorem dL_kept_163 : decode cL_kept 163 = .ok (.invokestatic 111, 3) := by decide +kernel
theorem dL_kept_166 : decode cL_kept 166 = .ok (.ladd, 1) := by decide +kernel
theorem dL_kept_167 : decode cL_kept 167 = .ok (.lstore 9, 2) := by decide +kernel
theorem dL_kept_169 : decode cL_kept 169 = .ok (.aload_n 0, 1) := by decide +kernel
theorem dL_kept_170 : decode cL_kept 170 = .ok (.iload 11, 2) := by decide +kernel
theorem dL_kept_172 : decode cL_kept 172 = .ok (.iconst 0, 1) := by decide +kernel
theorem dL_kept_173 : decode cL_kept 173 = .ok (.invokestatic 111, 3) := by decide +kernel
theorem dL_kept_176 : decode cL_kept 176 = .ok (.aload_n 0, 1) := by decide +kernel
theorem dL_kept_177 : decode cL_kept 177 = .ok (.iload 11, 2) := by decide +kernel
theorem dL_kept_179 : decode cL_kept 179 = .ok (.iconst 1, 1) := by decide +kernel
theorem dL_kept_180 : decode cL_kept 180 = .ok (.invokestatic 111, 3) := by decide +kernel
theorem dL_kept_183 : decode cL_kept 183 = .ok (.lcmp, 1) := by decide +kernel
theorem dL_kept_184 : decode cL_kept 184 = .ok (.ifCond .gt 99, 3) := by decide +kernel
theorem dL_kept_187 : decode cL_kept 187 = .ok (.iload 11, 2) := by decide +kernel
theorem dL_kept_189 : decode cL_kept 189 = .ok (.ifCond .ne 18, 3) := by decide +kernel
theorem dL_kept_192 : decode cL_kept 192 = .ok (.aload_n 0, 1) := by decide +kernel
theorem dL_kept_193 : decode cL_kept 193 = .ok (.iload 11, 2) := by decide +kernel
theorem dL_kept_195 : decode cL_kept 195 = .ok (.iconst 0, 1) := by decide +kernel
theorem dL_kept_196 : decode cL_kept 196 = .ok (.invokestatic 111, 3) := by decide +kernel
theorem dL_kept_199 : decode cL_kept 199 = .ok (.lconst 0, 1) := by decide +kernel
theorem dL_kept_200 : decode cL_kept 200 = .ok (.lcmp, 1) := by decide +kernel
theorem dL_kept_201 : decode cL_kept 201 = .ok (.ifCond .ne 82, 3) := by decide +kernel
theorem dL_kept_204 : decode cL_kept 204 = .ok (.goto 25, 3) := by decide +kernel
theorem dL_kept_207 : decode cL_kept 207 = .ok (.aload_n 0, 1) := by decide +kernel
theorem dL_kept_208 : decode cL_kept 208 = .ok (.iload 11, 2) := by decide +kernel
theorem dL_kept_210 : decode cL_kept 210 = .ok (.iconst 0, 1) := by decide +kernel
theorem dL_kept_211 : decode cL_kept 211 = .ok (.invokestatic 111, 3) := by decide +kernel
theorem dL_kept_214 : decode cL_kept 214 = .ok (.aload_n 0, 1) := by decide +kernel
theorem dL_kept_215 : decode cL_kept 215 = .ok (.iload 11, 2) := by decide +kernel
theorem dL_kept_217 : decode cL_kept 217 = .ok (.iconst 1, 1) := by decide +kernel
theorem dL_kept_218 : decode cL_kept 218 = .ok (.isub, 1) := by decide +kernel
theorem dL_kept_219 : decode cL_kept 219 = .ok (.iconst 1, 1) := by decide +kernel
theorem dL_kept_220 : decode cL_kept 220 = .ok (.invokestatic 111, 3) := by decide +kernel
theorem dL_kept_223 : decode cL_kept 223 = .ok (.lconst 1, 1) := by decide +kernel
theorem dL_kept_224 : decode cL_kept 224 = .ok (.ladd, 1) := by decide +kernel
theorem dL_kept_225 : decode cL_kept 225 = .ok (.lcmp, 1) := by decide +kernel
theorem dL_kept_226 : decode cL_kept 226 = .ok (.ifCond .ne 57, 3) := by decide +kernel
theorem dL_kept_229 : decode cL_kept 229 = .ok (.aload_n 0, 1) := by decide +kernel
theorem dL_kept_230 : decode cL_kept 230 = .ok (.iload 11, 2) := by decide +kernel
theorem dL_kept_232 : decode cL_kept 232 = .ok (.iconst 3, 1) := by decide +kernel
theorem dL_kept_233 : decode cL_kept 233 = .ok (.invokestatic 111, 3) := by decide +kernel
theorem dL_kept_236 : decode cL_kept 236 = .ok (.aload_n 0, 1) := by decide +kernel
theorem dL_kept_237 : decode cL_kept 237 = .ok (.iload 11, 2) := by decide +kernel
theorem dL_kept_239 : decode cL_kept 239 = .ok (.iconst 2, 1) := by decide +kernel
theorem dL_kept_240 : decode cL_kept 240 = .ok (.invokestatic 111, 3) := by decide +kernel
theorem dL_kept_243 : decode cL_kept 243 = .ok (.lcmp, 1) := by decide +kernel
theorem dL_kept_244 : decode cL_kept 244 = .ok (.ifCond .gt 39, 3) := by decide +kernel
theorem dL_kept_247 : decode cL_kept 247 = .ok (.aload_n 0, 1) := by decide +kernel
theorem dL_kept_248 : decode cL_kept 248 = .ok (.iload 11, 2) := by decide +kernel
theorem dL_kept_250 : decode cL_kept 250 = .ok (.iconst 4, 1) := by decide +kernel
theorem dL_kept_251 : decode cL_kept 251 = .ok (.invokestatic 111, 3) := by decide +kernel
theorem dL_kept_254 : decode cL_kept 254 = .ok (.aload_n 0, 1) := by decide +kernel
theorem dL_kept_255 : decode cL_kept 255 = .ok (.iload 11, 2) := by decide +kernel
theorem dL_kept_257 : decode cL_kept 257 = .ok (.iconst 2, 1) := by decide +kernel
theorem dL_kept_258 : decode cL_kept 258 = .ok (.invokestatic 111, 3) := by decide +kernel
theorem dL_kept_261 : decode cL_kept 261 = .ok (.lcmp, 1) := by decide +kernel
theorem dL_kept_262 : decode cL_kept 262 = .ok (.ifCond .lt 21, 3) := by decide +kernel
theorem dL_kept_265 : decode cL_kept 265 = .ok (.aload_n 0, 1) := by decide +kernel
theorem dL_kept_266 : decode cL_kept 266 = .ok (.bipush 7, 2) := by decide +kernel
theorem dL_kept_268 : decode cL_kept 268 = .ok (.iconst 1, 1) := by decide +kernel
theorem dL_kept_269 : decode cL_kept 269 = .ok (.invokestatic 111, 3) := by decide +kernel
theorem dL_kept_272 : decode cL_kept 272 = .ok (.ldc2_w 170, 3) := by decide +kernel
theorem dL_kept_275 : decode cL_kept 275 = .ok (.lcmp, 1) := by decide +kernel
theorem dL_kept_276 : decode cL_kept 276 = .ok (.ifCond .ne 7, 3) := by decide +kernel
theorem dL_kept_279 : decode cL_kept 279 = .ok (.iconst 1, 1) := by decide +kernel
theorem dL_kept_280 : decode cL_kept 280 = .ok (.goto 4, 3) := by decide +kernel
theorem dL_kept_283 : decode cL_kept 283 = .ok (.iconst 0, 1) := by decide +kernel
theorem dL_kept_284 : decode cL_kept 284 = .ok (.istore 4, 2) := by decide +kernel
theorem dL_kept_286 : decode cL_kept 286 = .ok (.iinc 11 1, 3) := by decide +kernel
theorem dL_kept_289 : decode cL_kept 289 = .ok (.goto (-168), 3) := by decide +kernel
theorem dL_kept_292 : decode cL_kept 292 = .ok (.iload 4, 2) := by decide +kernel
theorem dL_kept_294 : decode cL_kept 294 = .ok (.ifCond .eq 120, 3) := by decide +kernel
theorem dL_kept_297 : decode cL_kept 297 = .ok (.aload_n 0, 1) := by decide +kernel
theorem dL_kept_298 : decode cL_kept 298 = .ok (.bipush 6, 2) := by decide +kernel
theorem dL_kept_300 : decode cL_kept 300 = .ok (.invokestatic 104, 3) := by decide +kernel
theorem dL_kept_303 : decode cL_kept 303 = .ok (.lload 5, 2) := by decide +kernel
theorem dL_kept_305 : decode cL_kept 305 = .ok (.lcmp, 1) := by decide +kernel
theorem dL_kept_306 : decode cL_kept 306 = .ok (.ifCond .ne 108, 3) := by decide +kernel
theorem dL_kept_309 : decode cL_kept 309 = .ok (.aload_n 0, 1) := by decide +kernel
theorem dL_kept_310 : decode cL_kept 310 = .ok (.bipush 7, 2) := by decide +kernel
theorem dL_kept_312 : decode cL_kept 312 = .ok (.invokestatic 104, 3) := by decide +kernel
theorem dL_kept_315 : decode cL_kept 315 = .ok (.lload 7, 2) := by decide +kernel
theorem dL_kept_317 : decode cL_kept 317 = .ok (.lcmp, 1) := by decide +kernel
theorem dL_kept_318 : decode cL_kept 318 = .ok (.ifCond .ne 96, 3) := by decide +kernel
theorem dL_kept_321 : decode cL_kept 321 = .ok (.lload 5, 2) := by decide +kernel
theorem dL_kept_323 : decode cL_kept 323 = .ok (.iload_n 3, 1) := by decide +kernel
theorem dL_kept_324 : decode cL_kept 324 = .ok (.ifCond .eq 7, 3) := by decide +kernel
theorem dL_kept_327 : decode cL_kept 327 = .ok (.lconst 1, 1) := by decide +kernel
theorem dL_kept_328 : decode cL_kept 328 = .ok (.goto 4, 3) := by decide +kernel
theorem dL_kept_331 : decode cL_kept 331 = .ok (.lconst 0, 1) := by decide +kernel
theorem dL_kept_332 : decode cL_kept 332 = .ok (.ladd, 1) := by decide +kernel
theorem dL_kept_333 : decode cL_kept 333 = .ok (.aload_n 0, 1) := by decide +kernel
theorem dL_kept_334 : decode cL_kept 334 = .ok (.iconst 2, 1) := by decide +kernel
theorem dL_kept_335 : decode cL_kept 335 = .ok (.invokestatic 104, 3) := by decide +kernel
theorem dL_kept_338 : decode cL_kept 338 = .ok (.lcmp, 1) := by decide +kernel
theorem dL_kept_339 : decode cL_kept 339 = .ok (.ifCond .gt 75, 3) := by decide +kernel
theorem dL_kept_342 : decode cL_kept 342 = .ok (.lload 9, 2) := by decide +kernel
theorem dL_kept_344 : decode cL_kept 344 = .ok (.iload_n 3, 1) := by decide +kernel
theorem dL_kept_345 : decode cL_kept 345 = .ok (.ifCond .eq 11, 3) := by decide +kernel
theorem dL_kept_348 : decode cL_kept 348 = .ok (.aload_n 0, 1) := by decide +kernel
theorem dL_kept_349 : decode cL_kept 349 = .ok (.iconst 2, 1) := by decide +kernel
theorem dL_kept_350 : decode cL_kept 350 = .ok (.invokestatic 114, 3) := by decide +kernel
theorem dL_kept_353 : decode cL_kept 353 = .ok (.goto 4, 3) := by decide +kernel
theorem dL_kept_356 : decode cL_kept 356 = .ok (.lconst 0, 1) := by decide +kernel
theorem dL_kept_357 : decode cL_kept 357 = .ok (.ladd, 1) := by decide +kernel
theorem dL_kept_358 : decode cL_kept 358 = .ok (.aload_n 0, 1) := by decide +kernel
theorem dL_kept_359 : decode cL_kept 359 = .ok (.iconst 2, 1) := by decide +kernel
theorem dL_kept_360 : decode cL_kept 360 = .ok (.invokestatic 104, 3) := by decide +kernel
theorem dL_kept_363 : decode cL_kept 363 = .ok (.aload_n 0, 1) := by decide +kernel
theorem dL_kept_364 : decode cL_kept 364 = .ok (.iconst 3, 1) := by decide +kernel
theorem dL_kept_365 : decode cL_kept 365 = .ok (.invokestatic 104, 3) := by decide +kernel
theorem dL_kept_368 : decode cL_kept 368 = .ok (.ladd, 1) := by decide +kernel
theorem dL_kept_369 : decode cL_kept 369 = .ok (.lcmp, 1) := by decide +kernel
theorem dL_kept_370 : decode cL_kept 370 = .ok (.ifCond .gt 44, 3) := by decide +kernel
theorem dL_kept_373 : decode cL_kept 373 = .ok (.aload_n 0, 1) := by decide +kernel
theorem dL_kept_374 : decode cL_kept 374 = .ok (.iconst 0, 1) := by decide +kernel
theorem dL_kept_375 : decode cL_kept 375 = .ok (.invokestatic 130, 3) := by decide +kernel
theorem dL_kept_378 : decode cL_kept 378 = .ok (.aload_n 0, 1) := by decide +kernel
theorem dL_kept_379 : decode cL_kept 379 = .ok (.iconst 1, 1) := by decide +kernel
theorem dL_kept_380 : decode cL_kept 380 = .ok (.invokestatic 130, 3) := by decide +kernel
theorem dL_kept_383 : decode cL_kept 383 = .ok (.lcmp, 1) := by decide +kernel
theorem dL_kept_384 : decode cL_kept 384 = .ok (.ifCond .gt 30, 3) := by decide +kernel
theorem dL_kept_387 : decode cL_kept 387 = .ok (.aload_n 0, 1) := by decide +kernel
theorem dL_kept_388 : decode cL_kept 388 = .ok (.iconst 1, 1) := by decide +kernel
theorem dL_kept_389 : decode cL_kept 389 = .ok (.invokestatic 130, 3) := by decide +kernel
theorem dL_kept_392 : decode cL_kept 392 = .ok (.aload_n 0, 1) := by decide +kernel
theorem dL_kept_393 : decode cL_kept 393 = .ok (.iconst 2, 1) := by decide +kernel
theorem dL_kept_394 : decode cL_kept 394 = .ok (.invokestatic 130, 3) := by decide +kernel
theorem dL_kept_397 : decode cL_kept 397 = .ok (.lcmp, 1) := by decide +kernel
theorem dL_kept_398 : decode cL_kept 398 = .ok (.ifCond .gt 16, 3) := by decide +kernel
theorem dL_kept_401 : decode cL_kept 401 = .ok (.aload_n 0, 1) := by decide +kernel
theorem dL_kept_402 : decode cL_kept 402 = .ok (.invokevirtual 118, 3) := by decide +kernel
theorem dL_kept_405 : decode cL_kept 405 = .ok (.lload_n 1, 1) := by decide +kernel
theorem dL_kept_406 : decode cL_kept 406 = .ok (.lcmp, 1) := by decide +kernel
theorem dL_kept_407 : decode cL_kept 407 = .ok (.ifCond .lt 7, 3) := by decide +kernel
theorem dL_kept_410 : decode cL_kept 410 = .ok (.iconst 1, 1) := by decide +kernel
theorem dL_kept_411 : decode cL_kept 411 = .ok (.goto 4, 3) := by decide +kernel
theorem dL_kept_414 : decode cL_kept 414 = .ok (.iconst 0, 1) := by decide +kernel
theorem dL_kept_415 : decode cL_kept 415 = .ok (.istore 4, 2) := by decide +kernel
theorem dL_kept_417 : decode cL_kept 417 = .ok (.iload 4, 2) := by decide +kernel
theorem dL_kept_419 : decode cL_kept 419 = .ok (.ifCond .eq 108, 3) := by decide +kernel
theorem dL_kept_422 : decode cL_kept 422 = .ok (.iload_n 3, 1) := by decide +kernel
theorem dL_kept_423 : decode cL_kept 423 = .ok (.ifCond .eq 76, 3) := by decide +kernel
theorem dL_kept_426 : decode cL_kept 426 = .ok (.aload_n 0, 1) := by decide +kernel
theorem dL_kept_427 : decode cL_kept 427 = .ok (.iconst 0, 1) := by decide +kernel
theorem dL_kept_428 : decode cL_kept 428 = .ok (.invokestatic 114, 3) := by decide +kernel
theorem dL_kept_431 : decode cL_kept 431 = .ok (.lconst 0, 1) := by decide +kernel
theorem dL_kept_432 : decode cL_kept 432 = .ok (.lcmp, 1) := by decide +kernel
theorem dL_kept_433 : decode cL_kept 433 = .ok (.ifCond .lt 94, 3) := by decide +kernel
theorem dL_kept_436 : decode cL_kept 436 = .ok (.aload_n 0, 1) := by decide +kernel
theorem dL_kept_437 : decode cL_kept 437 = .ok (.iconst 1, 1) := by decide +kernel
theorem dL_kept_438 : decode cL_kept 438 = .ok (.invokestatic 114, 3) := by decide +kernel
theorem dL_kept_441 : decode cL_kept 441 = .ok (.lconst 1, 1) := by decide +kernel
theorem dL_kept_442 : decode cL_kept 442 = .ok (.lcmp, 1) := by decide +kernel
theorem dL_kept_443 : decode cL_kept 443 = .ok (.ifCond .lt 84, 3) := by decide +kernel
theorem dL_kept_446 : decode cL_kept 446 = .ok (.aload_n 0, 1) := by decide +kernel
theorem dL_kept_447 : decode cL_kept 447 = .ok (.iconst 1, 1) := by decide +kernel
theorem dL_kept_448 : decode cL_kept 448 = .ok (.invokestatic 114, 3) := by decide +kernel
theorem dL_kept_451 : decode cL_kept 451 = .ok (.ldc2_w 170, 3) := by decide +kernel
theorem dL_kept_454 : decode cL_kept 454 = .ok (.lcmp, 1) := by decide +kernel
theorem dL_kept_455 : decode cL_kept 455 = .ok (.ifCond .gt 72, 3) := by decide +kernel
theorem dL_kept_458 : decode cL_kept 458 = .ok (.aload_n 0, 1) := by decide +kernel
theorem dL_kept_459 : decode cL_kept 459 = .ok (.iconst 2, 1) := by decide +kernel
theorem dL_kept_460 : decode cL_kept 460 = .ok (.invokestatic 114, 3) := by decide +kernel
theorem dL_kept_463 : decode cL_kept 463 = .ok (.lconst 1, 1) := by decide +kernel
theorem dL_kept_464 : decode cL_kept 464 = .ok (.lcmp, 1) := by decide +kernel
theorem dL_kept_465 : decode cL_kept 465 = .ok (.ifCond .lt 62, 3) := by decide +kernel
theorem dL_kept_468 : decode cL_kept 468 = .ok (.aload_n 0, 1) := by decide +kernel
theorem dL_kept_469 : decode cL_kept 469 = .ok (.iconst 3, 1) := by decide +kernel
theorem dL_kept_470 : decode cL_kept 470 = .ok (.invokestatic 114, 3) := by decide +kernel
theorem dL_kept_473 : decode cL_kept 473 = .ok (.lconst 0, 1) := by decide +kernel
theorem dL_kept_474 : decode cL_kept 474 = .ok (.lconst 1, 1) := by decide +kernel
theorem dL_kept_475 : decode cL_kept 475 = .ok (.invokestatic 172, 3) := by decide +kernel
theorem dL_kept_478 : decode cL_kept 478 = .ok (.ifCond .eq 49, 3) := by decide +kernel
theorem dL_kept_481 : decode cL_kept 481 = .ok (.aload_n 0, 1) := by decide +kernel
theorem dL_kept_482 : decode cL_kept 482 = .ok (.bipush 8, 2) := by decide +kernel
theorem dL_kept_484 : decode cL_kept 484 = .ok (.invokestatic 104, 3) := by decide +kernel
theorem dL_kept_487 : decode cL_kept 487 = .ok (.aload_n 0, 1) := by decide +kernel
theorem dL_kept_488 : decode cL_kept 488 = .ok (.iconst 1, 1) := by decide +kernel
theorem dL_kept_489 : decode cL_kept 489 = .ok (.invokestatic 114, 3) := by decide +kernel
theorem dL_kept_492 : decode cL_kept 492 = .ok (.lcmp, 1) := by decide +kernel
theorem dL_kept_493 : decode cL_kept 493 = .ok (.ifCond .gt 34, 3) := by decide +kernel
theorem dL_kept_496 : decode cL_kept 496 = .ok (.goto 27, 3) := by decide +kernel
theorem dL_kept_499 : decode cL_kept 499 = .ok (.aload_n 0, 1) := by decide +kernel
theorem dL_kept_500 : decode cL_kept 500 = .ok (.iconst 0, 1) := by decide +kernel
theorem dL_kept_501 : decode cL_kept 501 = .ok (.invokestatic 114, 3) := by decide +kernel
theorem dL_kept_504 : decode cL_kept 504 = .ok (.ldc2_w 176, 3) := by decide +kernel
theorem dL_kept_507 : decode cL_kept 507 = .ok (.lcmp, 1) := by decide +kernel
theorem dL_kept_508 : decode cL_kept 508 = .ok (.ifCond .ne 19, 3) := by decide +kernel
theorem dL_kept_511 : decode cL_kept 511 = .ok (.aload_n 0, 1) := by decide +kernel
theorem dL_kept_512 : decode cL_kept 512 = .ok (.iconst 1, 1) := by decide +kernel
theorem dL_kept_513 : decode cL_kept 513 = .ok (.invokestatic 114, 3) := by decide +kernel
theorem dL_kept_516 : decode cL_kept 516 = .ok (.ldc2_w 176, 3) := by decide +kernel
theorem dL_kept_519 : decode cL_kept 519 = .ok (.lcmp, 1) := by decide +kernel
theorem dL_kept_520 : decode cL_kept 520 = .ok (.ifCond .ne 7, 3) := by decide +kernel
theorem dL_kept_523 : decode cL_kept 523 = .ok (.iconst 1, 1) := by decide +kernel
theorem dL_kept_524 : decode cL_kept 524 = .ok (.goto 4, 3) := by decide +kernel
theorem dL_kept_527 : decode cL_kept 527 = .ok (.iconst 0, 1) := by decide +kernel
theorem dL_kept_528 : decode cL_kept 528 = .ok (.istore 4, 2) := by decide +kernel
theorem dL_kept_530 : decode cL_kept 530 = .ok (.aload_n 0, 1) := by decide +kernel
theorem dL_kept_531 : decode cL_kept 531 = .ok (.bipush 10, 2) := by decide +kernel
theorem dL_kept_533 : decode cL_kept 533 = .ok (.invokestatic 104, 3) := by decide +kernel
theorem dL_kept_536 : decode cL_kept 536 = .ok (.l2i, 1) := by decide +kernel
theorem dL_kept_537 : decode cL_kept 537 = .ok (.istore 11, 2) := by decide +kernel
theorem dL_kept_539 : decode cL_kept 539 = .ok (.lconst 0, 1) := by decide +kernel
theorem dL_kept_540 : decode cL_kept 540 = .ok (.lstore 12, 2) := by decide +kernel
theorem dL_kept_542 : decode cL_kept 542 = .ok (.iconst 0, 1) := by decide +kernel
theorem dL_kept_543 : decode cL_kept 543 = .ok (.istore 14, 2) := by decide +kernel
theorem dL_kept_545 : decode cL_kept 545 = .ok (.iload 14, 2) := by decide +kernel
theorem dL_kept_547 : decode cL_kept 547 = .ok (.iconst 4, 1) := by decide +kernel
theorem dL_kept_548 : decode cL_kept 548 = .ok (.if_icmp .ge 165, 3) := by decide +kernel
theorem dL_kept_551 : decode cL_kept 551 = .ok (.iload 4, 2) := by decide +kernel
theorem dL_kept_553 : decode cL_kept 553 = .ok (.ifCond .eq 160, 3) := by decide +kernel
theorem dL_kept_556 : decode cL_kept 556 = .ok (.iconst 0, 1) := by decide +kernel
theorem dL_kept_557 : decode cL_kept 557 = .ok (.istore 15, 2) := by decide +kernel
theorem dL_kept_559 : decode cL_kept 559 = .ok (.iconst 0, 1) := by decide +kernel
theorem dL_kept_560 : decode cL_kept 560 = .ok (.istore 16, 2) := by decide +kernel
theorem dL_kept_562 : decode cL_kept 562 = .ok (.iload 16, 2) := by decide +kernel
theorem dL_kept_564 : decode cL_kept 564 = .ok (.iload 11, 2) := by decide +kernel
theorem dL_kept_566 : decode cL_kept 566 = .ok (.if_icmp .ge 32, 3) := by decide +kernel
theorem dL_kept_569 : decode cL_kept 569 = .ok (.iload 15, 2) := by decide +kernel
theorem dL_kept_571 : decode cL_kept 571 = .ok (.aload_n 0, 1) := by decide +kernel
theorem dL_kept_572 : decode cL_kept 572 = .ok (.iload 16, 2) := by decide +kernel
theorem dL_kept_574 : decode cL_kept 574 = .ok (.invokestatic 116, 3) := by decide +kernel
theorem dL_kept_577 : decode cL_kept 577 = .ok (.iload 14, 2) := by decide +kernel
theorem dL_kept_579 : decode cL_kept 579 = .ok (.i2l, 1) := by decide +kernel
theorem dL_kept_580 : decode cL_kept 580 = .ok (.lcmp, 1) := by decide +kernel
theorem dL_kept_581 : decode cL_kept 581 = .ok (.ifCond .ne 7, 3) := by decide +kernel
theorem dL_kept_584 : decode cL_kept 584 = .ok (.iconst 1, 1) := by decide +kernel
theorem dL_kept_585 : decode cL_kept 585 = .ok (.goto 4, 3) := by decide +kernel
theorem dL_kept_588 : decode cL_kept 588 = .ok (.iconst 0, 1) := by decide +kernel
theorem dL_kept_589 : decode cL_kept 589 = .ok (.iadd, 1) := by decide +kernel
theorem dL_kept_590 : decode cL_kept 590 = .ok (.istore 15, 2) := by decide +kernel
theorem dL_kept_592 : decode cL_kept 592 = .ok (.iinc 16 1, 3) := by decide +kernel
theorem dL_kept_595 : decode cL_kept 595 = .ok (.goto (-33), 3) := by decide +kernel
theorem dL_kept_598 : decode cL_kept 598 = .ok (.lload 12, 2) := by decide +kernel
theorem dL_kept_600 : decode cL_kept 600 = .ok (.iload 15, 2) := by decide +kernel
theorem dL_kept_602 : decode cL_kept 602 = .ok (.i2l, 1) := by decide +kernel
theorem dL_kept_603 : decode cL_kept 603 = .ok (.ladd, 1) := by decide +kernel
theorem dL_kept_604 : decode cL_kept 604 = .ok (.lstore 12, 2) := by decide +kernel
theorem dL_kept_606 : decode cL_kept 606 = .ok (.iload 15, 2) := by decide +kernel
theorem dL_kept_608 : decode cL_kept 608 = .ok (.i2l, 1) := by decide +kernel
theorem dL_kept_609 : decode cL_kept 609 = .ok (.aload_n 0, 1) := by decide +kernel
theorem dL_kept_610 : decode cL_kept 610 = .ok (.iconst 2, 1) := by decide +kernel
theorem dL_kept_611 : decode cL_kept 611 = .ok (.iload 14, 2) := by decide +kernel
theorem dL_kept_613 : decode cL_kept 613 = .ok (.iadd, 1) := by decide +kernel
theorem dL_kept_614 : decode cL_kept 614 = .ok (.invokestatic 104, 3) := by decide +kernel
theorem dL_kept_617 : decode cL_kept 617 = .ok (.lcmp, 1) := by decide +kernel
theorem dL_kept_618 : decode cL_kept 618 = .ok (.ifCond .gt 86, 3) := by decide +kernel
theorem dL_kept_621 : decode cL_kept 621 = .ok (.lload_n 1, 1) := by decide +kernel
theorem dL_kept_622 : decode cL_kept 622 = .ok (.ldc2_w 166, 3) := by decide +kernel
theorem dL_kept_625 : decode cL_kept 625 = .ok (.lcmp, 1) := by decide +kernel
theorem dL_kept_626 : decode cL_kept 626 = .ok (.ifCond .gt 18, 3) := by decide +kernel
theorem dL_kept_629 : decode cL_kept 629 = .ok (.iload 15, 2) := by decide +kernel
theorem dL_kept_631 : decode cL_kept 631 = .ok (.i2l, 1) := by decide +kernel
theorem dL_kept_632 : decode cL_kept 632 = .ok (.aload_n 0, 1) := by decide +kernel
theorem dL_kept_633 : decode cL_kept 633 = .ok (.iconst 2, 1) := by decide +kernel
theorem dL_kept_634 : decode cL_kept 634 = .ok (.iload 14, 2) := by decide +kernel
theorem dL_kept_636 : decode cL_kept 636 = .ok (.iadd, 1) := by decide +kernel
theorem dL_kept_637 : decode cL_kept 637 = .ok (.invokestatic 104, 3) := by decide +kernel
theorem dL_kept_640 : decode cL_kept 640 = .ok (.lcmp, 1) := by decide +kernel
theorem dL_kept_641 : decode cL_kept 641 = .ok (.ifCond .ne 63, 3) := by decide +kernel
theorem dL_kept_644 : decode cL_kept 644 = .ok (.aload_n 0, 1) := by decide +kernel
theorem dL_kept_645 : decode cL_kept 645 = .ok (.iconst 1, 1) := by decide +kernel
theorem dL_kept_646 : decode cL_kept 646 = .ok (.iload 14, 2) := by decide +kernel
theorem dL_kept_648 : decode cL_kept 648 = .ok (.invokestatic 128, 3) := by decide +kernel
theorem dL_kept_651 : decode cL_kept 651 = .ok (.iload 15, 2) := by decide +kernel
theorem dL_kept_653 : decode cL_kept 653 = .ok (.i2l, 1) := by decide +kernel
theorem dL_kept_654 : decode cL_kept 654 = .ok (.lcmp, 1) := by decide +kernel
theorem dL_kept_655 : decode cL_kept 655 = .ok (.ifCond .ne 49, 3) := by decide +kernel
theorem dL_kept_658 : decode cL_kept 658 = .ok (.aload_n 0, 1) := by decide +kernel
theorem dL_kept_659 : decode cL_kept 659 = .ok (.iload 14, 2) := by decide +kernel
theorem dL_kept_661 : decode cL_kept 661 = .ok (.invokestatic 126, 3) := by decide +kernel
theorem dL_kept_664 : decode cL_kept 664 = .ok (.iload 15, 2) := by decide +kernel
theorem dL_kept_666 : decode cL_kept 666 = .ok (.i2l, 1) := by decide +kernel
theorem dL_kept_667 : decode cL_kept 667 = .ok (.lcmp, 1) := by decide +kernel
theorem dL_kept_668 : decode cL_kept 668 = .ok (.ifCond .gt 36, 3) := by decide +kernel
theorem dL_kept_671 : decode cL_kept 671 = .ok (.iload 15, 2) := by decide +kernel
theorem dL_kept_673 : decode cL_kept 673 = .ok (.ifCond .ne 7, 3) := by decide +kernel
theorem dL_kept_676 : decode cL_kept 676 = .ok (.iconst 1, 1) := by decide +kernel
theorem dL_kept_677 : decode cL_kept 677 = .ok (.goto 4, 3) := by decide +kernel
theorem dL_kept_680 : decode cL_kept 680 = .ok (.iconst 0, 1) := by decide +kernel
theorem dL_kept_681 : decode cL_kept 681 = .ok (.aload_n 0, 1) := by decide +kernel
theorem dL_kept_682 : decode cL_kept 682 = .ok (.iload 14, 2) := by decide +kernel
theorem dL_kept_684 : decode cL_kept 684 = .ok (.invokestatic 126, 3) := by decide +kernel
theorem dL_kept_687 : decode cL_kept 687 = .ok (.lconst 0, 1) := by decide +kernel
theorem dL_kept_688 : decode cL_kept 688 = .ok (.lcmp, 1) := by decide +kernel
theorem dL_kept_689 : decode cL_kept 689 = .ok (.ifCond .ne 7, 3) := by decide +kernel
theorem dL_kept_692 : decode cL_kept 692 = .ok (.iconst 1, 1) := by decide +kernel
theorem dL_kept_693 : decode cL_kept 693 = .ok (.goto 4, 3) := by decide +kernel
theorem dL_kept_696 : decode cL_kept 696 = .ok (.iconst 0, 1) := by decide +kernel
theorem dL_kept_697 : decode cL_kept 697 = .ok (.if_icmp .ne 7, 3) := by decide +kernel
theorem dL_kept_700 : decode cL_kept 700 = .ok (.iconst 1, 1) := by decide +kernel
theorem dL_kept_701 : decode cL_kept 701 = .ok (.goto 4, 3) := by decide +kernel
theorem dL_kept_704 : decode cL_kept 704 = .ok (.iconst 0, 1) := by decide +kernel
theorem dL_kept_705 : decode cL_kept 705 = .ok (.istore 4, 2) := by decide +kernel
theorem dL_kept_707 : decode cL_kept 707 = .ok (.iinc 14 1, 3) := by decide +kernel
theorem dL_kept_710 : decode cL_kept 710 = .ok (.goto (-165), 3) := by decide +kernel
theorem dL_kept_713 : decode cL_kept 713 = .ok (.lconst 0, 1) := by decide +kernel
theorem dL_kept_714 : decode cL_kept 714 = .ok (.lstore 14, 2) := by decide +kernel
theorem dL_kept_716 : decode cL_kept 716 = .ok (.iconst 0, 1) := by decide +kernel
theorem dL_kept_717 : decode cL_kept 717 = .ok (.istore 16, 2) := by decide +kernel
theorem dL_kept_719 : decode cL_kept 719 = .ok (.iload 16, 2) := by decide +kernel
theorem dL_kept_721 : decode cL_kept 721 = .ok (.iconst 4, 1) := by decide +kernel
theorem dL_kept_722 : decode cL_kept 722 = .ok (.if_icmp .ge 32, 3) := by decide +kernel
theorem dL_kept_725 : decode cL_kept 725 = .ok (.lload 14, 2) := by decide +kernel
theorem dL_kept_727 : decode cL_kept 727 = .ok (.aload_n 0, 1) := by decide +kernel
theorem dL_kept_728 : decode cL_kept 728 = .ok (.aload_n 0, 1) := by decide +kernel
theorem dL_kept_729 : decode cL_kept 729 = .ok (.iconst 1, 1) := by decide +kernel
theorem dL_kept_730 : decode cL_kept 730 = .ok (.invokestatic 109, 3) := by decide +kernel
theorem dL_kept_733 : decode cL_kept 733 = .ok (.l2i, 1) := by decide +kernel
theorem dL_kept_734 : decode cL_kept 734 = .ok (.aload_n 0, 1) := by decide +kernel
theorem dL_kept_735 : decode cL_kept 735 = .ok (.iconst 2, 1) := by decide +kernel
theorem dL_kept_736 : decode cL_kept 736 = .ok (.invokestatic 109, 3) := by decide +kernel
theorem dL_kept_739 : decode cL_kept 739 = .ok (.l2i, 1) := by decide +kernel
theorem dL_kept_740 : decode cL_kept 740 = .ok (.iload 16, 2) := by decide +kernel
theorem dL_kept_742 : decode cL_kept 742 = .ok (.invokestatic 146, 3) := by decide +kernel
theorem dL_kept_745 : decode cL_kept 745 = .ok (.ladd, 1) := by decide +kernel
theorem dL_kept_746 : decode cL_kept 746 = .ok (.lstore 14, 2) := by decide +kernel
theorem dL_kept_748 : decode cL_kept 748 = .ok (.iinc 16 1, 3) := by decide +kernel
theorem dL_kept_751 : decode cL_kept 751 = .ok (.goto (-32), 3) := by decide +kernel
theorem dL_kept_754 : decode cL_kept 754 = .ok (.iload 4, 2) := by decide +kernel
theorem dL_kept_756 : decode cL_kept 756 = .ok (.ifCond .eq 57, 3) := by decide +kernel
theorem dL_kept_759 : decode cL_kept 759 = .ok (.lload 12, 2) := by decide +kernel
theorem dL_kept_761 : decode cL_kept 761 = .ok (.iload 11, 2) := by decide +kernel
theorem dL_kept_763 : decode cL_kept 763 = .ok (.i2l, 1) := by decide +kernel
theorem dL_kept_764 : decode cL_kept 764 = .ok (.lcmp, 1) := by decide +kernel
theorem dL_kept_765 : decode cL_kept 765 = .ok (.ifCond .ne 48, 3) := by decide +kernel
theorem dL_kept_768 : decode cL_kept 768 = .ok (.aload_n 0, 1) := by decide +kernel
theorem dL_kept_769 : decode cL_kept 769 = .ok (.iload 11, 2) := by decide +kernel
theorem dL_kept_771 : decode cL_kept 771 = .ok (.invokestatic 116, 3) := by decide +kernel
theorem dL_kept_774 : decode cL_kept 774 = .ok (.ldc2_w 176, 3) := by decide +kernel
theorem dL_kept_777 : decode cL_kept 777 = .ok (.lcmp, 1) := by decide +kernel
theorem dL_kept_778 : decode cL_kept 778 = .ok (.ifCond .ne 35, 3) := by decide +kernel
theorem dL_kept_781 : decode cL_kept 781 = .ok (.lload 14, 2) := by decide +kernel
theorem dL_kept_783 : decode cL_kept 783 = .ok (.aload_n 0, 1) := by decide +kernel
theorem dL_kept_784 : decode cL_kept 784 = .ok (.bipush 9, 2) := by decide +kernel
theorem dL_kept_786 : decode cL_kept 786 = .ok (.invokestatic 104, 3) := by decide +kernel
theorem dL_kept_789 : decode cL_kept 789 = .ok (.lcmp, 1) := by decide +kernel
theorem dL_kept_790 : decode cL_kept 790 = .ok (.ifCond .ne 23, 3) := by decide +kernel
theorem dL_kept_793 : decode cL_kept 793 = .ok (.aload_n 0, 1) := by decide +kernel
theorem dL_kept_794 : decode cL_kept 794 = .ok (.aload_n 0, 1) := by decide +kernel
theorem dL_kept_795 : decode cL_kept 795 = .ok (.bipush 8, 2) := by decide +kernel
theorem dL_kept_797 : decode cL_kept 797 = .ok (.invokestatic 104, 3) := by decide +kernel
theorem dL_kept_800 : decode cL_kept 800 = .ok (.l2i, 1) := by decide +kernel
theorem dL_kept_801 : decode cL_kept 801 = .ok (.invokestatic 144, 3) := by decide +kernel
theorem dL_kept_804 : decode cL_kept 804 = .ok (.lconst 0, 1) := by decide +kernel
theorem dL_kept_805 : decode cL_kept 805 = .ok (.lcmp, 1) := by decide +kernel
theorem dL_kept_806 : decode cL_kept 806 = .ok (.ifCond .ne 7, 3) := by decide +kernel
theorem dL_kept_809 : decode cL_kept 809 = .ok (.iconst 1, 1) := by decide +kernel
theorem dL_kept_810 : decode cL_kept 810 = .ok (.goto 4, 3) := by decide +kernel
theorem dL_kept_813 : decode cL_kept 813 = .ok (.iconst 0, 1) := by decide +kernel
theorem dL_kept_814 : decode cL_kept 814 = .ok (.ireturn, 1) := by decide +kernel
theorem dL_follows_0 : decode cL_follows 0 = .ok (.aload_n 0, 1) := by decide +kernel
theorem dL_follows_1 : decode cL_follows 1 = .ok (.invokestatic 122, 3) := by decide +kernel
theorem dL_follows_4 : decode cL_follows 4 = .ok (.lstore_n 2, 1) := by decide +kernel
theorem dL_follows_5 : decode cL_follows 5 = .ok (.aload_n 0, 1) := by decide +kernel
theorem dL_follows_6 : decode cL_follows 6 = .ok (.iconst 0, 1) := by decide +kernel
theorem dL_follows_7 : decode cL_follows 7 = .ok (.invokestatic 104, 3) := by decide +kernel
theorem dL_follows_10 : decode cL_follows 10 = .ok (.lstore 4, 2) := by decide +kernel
theorem dL_follows_12 : decode cL_follows 12 = .ok (.iload_n 1, 1) := by decide +kernel
theorem dL_follows_13 : decode cL_follows 13 = .ok (.iconst 3, 1) := by decide +kernel
theorem dL_follows_14 : decode cL_follows 14 = .ok (.irem, 1) := by decide +kernel
theorem dL_follows_15 : decode cL_follows 15 = .ok (.ifCond .ne 12, 3) := by decide +kernel
theorem dL_follows_18 : decode cL_follows 18 = .ok (.iload_n 1, 1) := by decide +kernel
theorem dL_follows_19 : decode cL_follows 19 = .ok (.iconst 3, 1) := by decide +kernel
theorem dL_follows_20 : decode cL_follows 20 = .ok (.idiv, 1) := by decide +kernel
theorem dL_follows_21 : decode cL_follows 21 = .ok (.bipush 100, 2) := by decide +kernel
theorem dL_follows_23 : decode cL_follows 23 = .ok (.irem, 1) := by decide +kernel
theorem dL_follows_24 : decode cL_follows 24 = .ok (.goto 9, 3) := by decide +kernel
theorem dL_follows_27 : decode cL_follows 27 = .ok (.iload_n 1, 1) := by decide +kernel
theorem dL_follows_28 : decode cL_follows 28 = .ok (.iconst 3, 1) := by decide +kernel
theorem dL_follows_29 : decode cL_follows 29 = .ok (.idiv, 1) := by decide +kernel
theorem dL_follows_30 : decode cL_follows 30 = .ok (.bipush 6, 2) := by decide +kernel
theorem dL_follows_32 : decode cL_follows 32 = .ok (.irem, 1) := by decide +kernel
theorem dL_follows_33 : decode cL_follows 33 = .ok (.istore 6, 2) := by decide +kernel
theorem dL_follows_35 : decode cL_follows 35 = .ok (.iconst 1, 1) := by decide +kernel
theorem dL_follows_36 : decode cL_follows 36 = .ok (.iload_n 1, 1) := by decide +kernel
theorem dL_follows_37 : decode cL_follows 37 = .ok (.sipush 300, 3) := by decide +kernel
theorem dL_follows_40 : decode cL_follows 40 = .ok (.idiv, 1) := by decide +kernel
theorem dL_follows_41 : decode cL_follows 41 = .ok (.bipush 60, 2) := by decide +kernel
theorem dL_follows_43 : decode cL_follows 43 = .ok (.irem, 1) := by decide +kernel
theorem dL_follows_44 : decode cL_follows 44 = .ok (.iadd, 1) := by decide +kernel
theorem dL_follows_45 : decode cL_follows 45 = .ok (.istore 7, 2) := by decide +kernel
theorem dL_follows_47 : decode cL_follows 47 = .ok (.aload_n 0, 1) := by decide +kernel
theorem dL_follows_48 : decode cL_follows 48 = .ok (.iconst 1, 1) := by decide +kernel
theorem dL_follows_49 : decode cL_follows 49 = .ok (.invokestatic 160, 3) := by decide +kernel
theorem dL_follows_52 : decode cL_follows 52 = .ok (.lload 4, 2) := by decide +kernel
theorem dL_follows_54 : decode cL_follows 54 = .ok (.lcmp, 1) := by decide +kernel
theorem dL_follows_55 : decode cL_follows 55 = .ok (.ifCond .ne 36, 3) := by decide +kernel
theorem dL_follows_58 : decode cL_follows 58 = .ok (.aload_n 0, 1) := by decide +kernel
theorem dL_follows_59 : decode cL_follows 59 = .ok (.iload_n 1, 1) := by decide +kernel
theorem dL_follows_60 : decode cL_follows 60 = .ok (.i2l, 1) := by decide +kernel
theorem dL_follows_61 : decode cL_follows 61 = .ok (.bipush 30, 2) := by decide +kernel
theorem dL_follows_63 : decode cL_follows 63 = .ok (.invokestatic 157, 3) := by decide +kernel
theorem dL_follows_66 : decode cL_follows 66 = .ok (.aload_n 0, 1) := by decide +kernel
theorem dL_follows_67 : decode cL_follows 67 = .ok (.iload_n 1, 1) := by decide +kernel
theorem dL_follows_68 : decode cL_follows 68 = .ok (.i2l, 1) := by decide +kernel
theorem dL_follows_69 : decode cL_follows 69 = .ok (.bipush 30, 2) := by decide +kernel
theorem dL_follows_71 : decode cL_follows 71 = .ok (.invokestatic 157, 3) := by decide +kernel
theorem dL_follows_74 : decode cL_follows 74 = .ok (.lcmp, 1) := by decide +kernel
theorem dL_follows_75 : decode cL_follows 75 = .ok (.ifCond .ne 16, 3) := by decide +kernel
theorem dL_follows_78 : decode cL_follows 78 = .ok (.aload_n 0, 1) := by decide +kernel
theorem dL_follows_79 : decode cL_follows 79 = .ok (.invokestatic 122, 3) := by decide +kernel
theorem dL_follows_82 : decode cL_follows 82 = .ok (.lload_n 2, 1) := by decide +kernel
theorem dL_follows_83 : decode cL_follows 83 = .ok (.lcmp, 1) := by decide +kernel
theorem dL_follows_84 : decode cL_follows 84 = .ok (.ifCond .ne 7, 3) := by decide +kernel
theorem dL_follows_87 : decode cL_follows 87 = .ok (.iconst 1, 1) := by decide +kernel
theorem dL_follows_88 : decode cL_follows 88 = .ok (.goto 4, 3) := by decide +kernel
theorem dL_follows_91 : decode cL_follows 91 = .ok (.iconst 0, 1) := by decide +kernel
theorem dL_follows_92 : decode cL_follows 92 = .ok (.istore 8, 2) := by decide +kernel
theorem dL_follows_94 : decode cL_follows 94 = .ok (.aload_n 0, 1) := by decide +kernel
theorem dL_follows_95 : decode cL_follows 95 = .ok (.iload 6, 2) := by decide +kernel
theorem dL_follows_97 : decode cL_follows 97 = .ok (.iload 7, 2) := by decide +kernel
theorem dL_follows_99 : decode cL_follows 99 = .ok (.invokestatic 140, 3) := by decide +kernel
theorem dL_follows_102 : decode cL_follows 102 = .ok (.lstore 9, 2) := by decide +kernel
theorem dL_follows_104 : decode cL_follows 104 = .ok (.aload_n 0, 1) := by decide +kernel
theorem dL_follows_105 : decode cL_follows 105 = .ok (.ldc2_w 178, 3) := by decide +kernel
theorem dL_follows_108 : decode cL_follows 108 = .ok (.lload 9, 2) := by decide +kernel
theorem dL_follows_110 : decode cL_follows 110 = .ok (.ladd, 1) := by decide +kernel
theorem dL_follows_111 : decode cL_follows 111 = .ok (.l2i, 1) := by decide +kernel
theorem dL_follows_112 : decode cL_follows 112 = .ok (.invokestatic 104, 3) := by decide +kernel
theorem dL_follows_115 : decode cL_follows 115 = .ok (.lstore 11, 2) := by decide +kernel
theorem dL_follows_117 : decode cL_follows 117 = .ok (.aload_n 0, 1) := by decide +kernel
theorem dL_follows_118 : decode cL_follows 118 = .ok (.invokevirtual 118, 3) := by decide +kernel
theorem dL_follows_121 : decode cL_follows 121 = .ok (.lstore 13, 2) := by decide +kernel
theorem dL_follows_123 : decode cL_follows 123 = .ok (.iload 8, 2) := by decide +kernel
theorem dL_follows_125 : decode cL_follows 125 = .ok (.ifCond .eq 174, 3) := by decide +kernel
theorem dL_follows_128 : decode cL_follows 128 = .ok (.lload 9, 2) := by decide +kernel
theorem dL_follows_130 : decode cL_follows 130 = .ok (.lconst 0, 1) := by decide +kernel
theorem dL_follows_131 : decode cL_follows 131 = .ok (.ldc2_w 180, 3) := by decide +kernel
theorem dL_follows_134 : decode cL_follows 134 = .ok (.invokestatic 172, 3) := by decide +kernel
theorem dL_follows_137 : decode cL_follows 137 = .ok (.ifCond .eq 162, 3) := by decide +kernel
theorem dL_follows_140 : decode cL_follows 140 = .ok (.aload_n 0, 1) := by decide +kernel
theorem dL_follows_141 : decode cL_follows 141 = .ok (.iconst 2, 1) := by decide +kernel
theorem dL_follows_142 : decode cL_follows 142 = .ok (.ldc2_w 182, 3) := by decide +kernel
theorem dL_follows_145 : decode cL_follows 145 = .ok (.ldc2_w 184, 3) := by decide +kernel
theorem dL_follows_148 : decode cL_follows 148 = .ok (.iload 6, 2) := by decide +kernel
theorem dL_follows_150 : decode cL_follows 150 = .ok (.i2l, 1) := by decide +kernel
theorem dL_follows_151 : decode cL_follows 151 = .ok (.lmul, 1) := by decide +kernel
theorem dL_follows_152 : decode cL_follows 152 = .ok (.ladd, 1) := by decide +kernel
theorem dL_follows_153 : decode cL_follows 153 = .ok (.ldc2_w 186, 3) := by decide +kernel
theorem dL_follows_156 : decode cL_follows 156 = .ok (.iload 7, 2) := by decide +kernel
theorem dL_follows_158 : decode cL_follows 158 = .ok (.i2l, 1) := by decide +kernel
theorem dL_follows_159 : decode cL_follows 159 = .ok (.lmul, 1) := by decide +kernel
theorem dL_follows_160 : decode cL_follows 160 = .ok (.ladd, 1) := by decide +kernel
theorem dL_follows_161 : decode cL_follows 161 = .ok (.ldc2_w 188, 3) := by decide +kernel
theorem dL_follows_164 : decode cL_follows 164 = .ok (.ladd, 1) := by decide +kernel
theorem dL_follows_165 : decode cL_follows 165 = .ok (.lload 9, 2) := by decide +kernel
theorem dL_follows_167 : decode cL_follows 167 = .ok (.ladd, 1) := by decide +kernel
theorem dL_follows_168 : decode cL_follows 168 = .ok (.invokestatic 151, 3) := by decide +kernel
theorem dL_follows_171 : decode cL_follows 171 = .ok (.ldc2_w 176, 3) := by decide +kernel
theorem dL_follows_174 : decode cL_follows 174 = .ok (.lcmp, 1) := by decide +kernel
theorem dL_follows_175 : decode cL_follows 175 = .ok (.ifCond .ne 124, 3) := by decide +kernel
theorem dL_follows_178 : decode cL_follows 178 = .ok (.aload_n 0, 1) := by decide +kernel
theorem dL_follows_179 : decode cL_follows 179 = .ok (.iload 6, 2) := by decide +kernel
theorem dL_follows_181 : decode cL_follows 181 = .ok (.iload 7, 2) := by decide +kernel
theorem dL_follows_183 : decode cL_follows 183 = .ok (.invokestatic 132, 3) := by decide +kernel
theorem dL_follows_186 : decode cL_follows 186 = .ok (.lload 9, 2) := by decide +kernel
theorem dL_follows_188 : decode cL_follows 188 = .ok (.lcmp, 1) := by decide +kernel
theorem dL_follows_189 : decode cL_follows 189 = .ok (.ifCond .ne 110, 3) := by decide +kernel
theorem dL_follows_192 : decode cL_follows 192 = .ok (.aload_n 0, 1) := by decide +kernel
theorem dL_follows_193 : decode cL_follows 193 = .ok (.iconst 0, 1) := by decide +kernel
theorem dL_follows_194 : decode cL_follows 194 = .ok (.invokestatic 116, 3) := by decide +kernel
theorem dL_follows_197 : decode cL_follows 197 = .ok (.lload 9, 2) := by decide +kernel
theorem dL_follows_199 : decode cL_follows 199 = .ok (.lcmp, 1) := by decide +kernel
theorem dL_follows_200 : decode cL_follows 200 = .ok (.ifCond .ne 99, 3) := by decide +kernel
theorem dL_follows_203 : decode cL_follows 203 = .ok (.aload_n 0, 1) := by decide +kernel
theorem dL_follows_204 : decode cL_follows 204 = .ok (.ldc2_w 178, 3) := by decide +kernel
theorem dL_follows_207 : decode cL_follows 207 = .ok (.lload 9, 2) := by decide +kernel
theorem dL_follows_209 : decode cL_follows 209 = .ok (.ladd, 1) := by decide +kernel
theorem dL_follows_210 : decode cL_follows 210 = .ok (.l2i, 1) := by decide +kernel
theorem dL_follows_211 : decode cL_follows 211 = .ok (.invokestatic 104, 3) := by decide +kernel
theorem dL_follows_214 : decode cL_follows 214 = .ok (.lload 11, 2) := by decide +kernel
theorem dL_follows_216 : decode cL_follows 216 = .ok (.lconst 1, 1) := by decide +kernel
theorem dL_follows_217 : decode cL_follows 217 = .ok (.ladd, 1) := by decide +kernel
theorem dL_follows_218 : decode cL_follows 218 = .ok (.lcmp, 1) := by decide +kernel
theorem dL_follows_219 : decode cL_follows 219 = .ok (.ifCond .ne 80, 3) := by decide +kernel
theorem dL_follows_222 : decode cL_follows 222 = .ok (.aload_n 0, 1) := by decide +kernel
theorem dL_follows_223 : decode cL_follows 223 = .ok (.iconst 0, 1) := by decide +kernel
theorem dL_follows_224 : decode cL_follows 224 = .ok (.invokestatic 104, 3) := by decide +kernel
theorem dL_follows_227 : decode cL_follows 227 = .ok (.lload 4, 2) := by decide +kernel
theorem dL_follows_229 : decode cL_follows 229 = .ok (.iload 6, 2) := by decide +kernel
theorem dL_follows_231 : decode cL_follows 231 = .ok (.i2l, 1) := by decide +kernel
theorem dL_follows_232 : decode cL_follows 232 = .ok (.ladd, 1) := by decide +kernel
theorem dL_follows_233 : decode cL_follows 233 = .ok (.lcmp, 1) := by decide +kernel
theorem dL_follows_234 : decode cL_follows 234 = .ok (.ifCond .ne 65, 3) := by decide +kernel
theorem dL_follows_237 : decode cL_follows 237 = .ok (.aload_n 0, 1) := by decide +kernel
theorem dL_follows_238 : decode cL_follows 238 = .ok (.invokevirtual 118, 3) := by decide +kernel
theorem dL_follows_241 : decode cL_follows 241 = .ok (.lload 13, 2) := by decide +kernel
theorem dL_follows_243 : decode cL_follows 243 = .ok (.iload 7, 2) := by decide +kernel
theorem dL_follows_245 : decode cL_follows 245 = .ok (.i2l, 1) := by decide +kernel
theorem dL_follows_246 : decode cL_follows 246 = .ok (.iload 7, 2) := by decide +kernel
theorem dL_follows_248 : decode cL_follows 248 = .ok (.i2l, 1) := by decide +kernel
theorem dL_follows_249 : decode cL_follows 249 = .ok (.lmul, 1) := by decide +kernel
theorem dL_follows_250 : decode cL_follows 250 = .ok (.iload 7, 2) := by decide +kernel
theorem dL_follows_252 : decode cL_follows 252 = .ok (.i2l, 1) := by decide +kernel
theorem dL_follows_253 : decode cL_follows 253 = .ok (.lmul, 1) := by decide +kernel
theorem dL_follows_254 : decode cL_follows 254 = .ok (.ladd, 1) := by decide +kernel
theorem dL_follows_255 : decode cL_follows 255 = .ok (.lcmp, 1) := by decide +kernel
theorem dL_follows_256 : decode cL_follows 256 = .ok (.ifCond .ne 43, 3) := by decide +kernel
theorem dL_follows_259 : decode cL_follows 259 = .ok (.lload 9, 2) := by decide +kernel
theorem dL_follows_261 : decode cL_follows 261 = .ok (.lconst 1, 1) := by decide +kernel
theorem dL_follows_262 : decode cL_follows 262 = .ok (.lcmp, 1) := by decide +kernel
theorem dL_follows_263 : decode cL_follows 263 = .ok (.ifCond .gt 14, 3) := by decide +kernel
theorem dL_follows_266 : decode cL_follows 266 = .ok (.aload_n 0, 1) := by decide +kernel
theorem dL_follows_267 : decode cL_follows 267 = .ok (.bipush 11, 2) := by decide +kernel
theorem dL_follows_269 : decode cL_follows 269 = .ok (.invokestatic 104, 3) := by decide +kernel
theorem dL_follows_272 : decode cL_follows 272 = .ok (.lconst 1, 1) := by decide +kernel
theorem dL_follows_273 : decode cL_follows 273 = .ok (.lcmp, 1) := by decide +kernel
theorem dL_follows_274 : decode cL_follows 274 = .ok (.ifCond .ne 25, 3) := by decide +kernel
theorem dL_follows_277 : decode cL_follows 277 = .ok (.aload_n 0, 1) := by decide +kernel
theorem dL_follows_278 : decode cL_follows 278 = .ok (.invokestatic 190, 3) := by decide +kernel
theorem dL_follows_281 : decode cL_follows 281 = .ok (.lconst 0, 1) := by decide +kernel
theorem dL_follows_282 : decode cL_follows 282 = .ok (.lcmp, 1) := by decide +kernel
theorem dL_follows_283 : decode cL_follows 283 = .ok (.ifCond .lt 16, 3) := by decide +kernel
theorem dL_follows_286 : decode cL_follows 286 = .ok (.aload_n 0, 1) := by decide +kernel
theorem dL_follows_287 : decode cL_follows 287 = .ok (.invokestatic 122, 3) := by decide +kernel
theorem dL_follows_290 : decode cL_follows 290 = .ok (.lload_n 2, 1) := by decide +kernel
theorem dL_follows_291 : decode cL_follows 291 = .ok (.lcmp, 1) := by decide +kernel
theorem dL_follows_292 : decode cL_follows 292 = .ok (.ifCond .ne 7, 3) := by decide +kernel
theorem dL_follows_295 : decode cL_follows 295 = .ok (.iconst 1, 1) := by decide +kernel
theorem dL_follows_296 : decode cL_follows 296 = .ok (.goto 4, 3) := by decide +kernel
theorem dL_follows_299 : decode cL_follows 299 = .ok (.iconst 0, 1) := by decide +kernel
theorem dL_follows_300 : decode cL_follows 300 = .ok (.istore 8, 2) := by decide +kernel
theorem dL_follows_302 : decode cL_follows 302 = .ok (.aload_n 0, 1) := by decide +kernel
theorem dL_follows_303 : decode cL_follows 303 = .ok (.iload 6, 2) := by decide +kernel
theorem dL_follows_305 : decode cL_follows 305 = .ok (.invokestatic 142, 3) := by decide +kernel
theorem dL_follows_308 : decode cL_follows 308 = .ok (.lstore 15, 2) := by decide +kernel
theorem dL_follows_310 : decode cL_follows 310 = .ok (.iconst 1, 1) := by decide +kernel
theorem dL_follows_311 : decode cL_follows 311 = .ok (.istore 17, 2) := by decide +kernel
theorem dL_follows_313 : decode cL_follows 313 = .ok (.iload 17, 2) := by decide +kernel
theorem dL_follows_315 : decode cL_follows 315 = .ok (.bipush 60, 2) := by decide +kernel
theorem dL_follows_317 : decode cL_follows 317 = .ok (.if_icmp .gt 95, 3) := by decide +kernel
theorem dL_follows_320 : decode cL_follows 320 = .ok (.iload 8, 2) := by decide +kernel
theorem dL_follows_322 : decode cL_follows 322 = .ok (.ifCond .eq 90, 3) := by decide +kernel
theorem dL_follows_325 : decode cL_follows 325 = .ok (.aload_n 0, 1) := by decide +kernel
theorem dL_follows_326 : decode cL_follows 326 = .ok (.iload 6, 2) := by decide +kernel
theorem dL_follows_328 : decode cL_follows 328 = .ok (.iload 17, 2) := by decide +kernel
theorem dL_follows_330 : decode cL_follows 330 = .ok (.invokestatic 140, 3) := by decide +kernel
theorem dL_follows_333 : decode cL_follows 333 = .ok (.lstore 18, 2) := by decide +kernel
theorem dL_follows_335 : decode cL_follows 335 = .ok (.lload 15, 2) := by decide +kernel
theorem dL_follows_337 : decode cL_follows 337 = .ok (.ldc2_w 176, 3) := by decide +kernel
theorem dL_follows_340 : decode cL_follows 340 = .ok (.lcmp, 1) := by decide +kernel
theorem dL_follows_341 : decode cL_follows 341 = .ok (.ifCond .ne 18, 3) := by decide +kernel
theorem dL_follows_344 : decode cL_follows 344 = .ok (.lload 18, 2) := by decide +kernel
theorem dL_follows_346 : decode cL_follows 346 = .ok (.lconst 0, 1) := by decide +kernel
theorem dL_follows_347 : decode cL_follows 347 = .ok (.lcmp, 1) := by decide +kernel
theorem dL_follows_348 : decode cL_follows 348 = .ok (.ifCond .eq 7, 3) := by decide +kernel
theorem dL_follows_351 : decode cL_follows 351 = .ok (.iconst 1, 1) := by decide +kernel
theorem dL_follows_352 : decode cL_follows 352 = .ok (.goto 52, 3) := by decide +kernel
theorem dL_follows_355 : decode cL_follows 355 = .ok (.iconst 0, 1) := by decide +kernel
theorem dL_follows_356 : decode cL_follows 356 = .ok (.goto 48, 3) := by decide +kernel
theorem dL_follows_359 : decode cL_follows 359 = .ok (.iload 17, 2) := by decide +kernel
theorem dL_follows_361 : decode cL_follows 361 = .ok (.i2l, 1) := by decide +kernel
theorem dL_follows_362 : decode cL_follows 362 = .ok (.lload 15, 2) := by decide +kernel
theorem dL_follows_364 : decode cL_follows 364 = .ok (.lcmp, 1) := by decide +kernel
theorem dL_follows_365 : decode cL_follows 365 = .ok (.ifCond .ge 18, 3) := by decide +kernel
theorem dL_follows_368 : decode cL_follows 368 = .ok (.lload 18, 2) := by decide +kernel
theorem dL_follows_370 : decode cL_follows 370 = .ok (.lconst 0, 1) := by decide +kernel
theorem dL_follows_371 : decode cL_follows 371 = .ok (.lcmp, 1) := by decide +kernel
theorem dL_follows_372 : decode cL_follows 372 = .ok (.ifCond .eq 7, 3) := by decide +kernel
theorem dL_follows_375 : decode cL_follows 375 = .ok (.iconst 1, 1) := by decide +kernel
theorem dL_follows_376 : decode cL_follows 376 = .ok (.goto 28, 3) := by decide +kernel
theorem dL_follows_379 : decode cL_follows 379 = .ok (.iconst 0, 1) := by decide +kernel
theorem dL_follows_380 : decode cL_follows 380 = .ok (.goto 24, 3) := by decide +kernel
theorem dL_follows_383 : decode cL_follows 383 = .ok (.iload 17, 2) := by decide +kernel
theorem dL_follows_385 : decode cL_follows 385 = .ok (.i2l, 1) := by decide +kernel
theorem dL_follows_386 : decode cL_follows 386 = .ok (.lload 15, 2) := by decide +kernel
theorem dL_follows_388 : decode cL_follows 388 = .ok (.lcmp, 1) := by decide +kernel
theorem dL_follows_389 : decode cL_follows 389 = .ok (.ifCond .gt 10, 3) := by decide +kernel
theorem dL_follows_392 : decode cL_follows 392 = .ok (.lload 18, 2) := by decide +kernel
theorem dL_follows_394 : decode cL_follows 394 = .ok (.lconst 0, 1) := by decide +kernel
theorem dL_follows_395 : decode cL_follows 395 = .ok (.lcmp, 1) := by decide +kernel
theorem dL_follows_396 : decode cL_follows 396 = .ok (.ifCond .ne 7, 3) := by decide +kernel
theorem dL_follows_399 : decode cL_follows 399 = .ok (.iconst 1, 1) := by decide +kernel
theorem dL_follows_400 : decode cL_follows 400 = .ok (.goto 4, 3) := by decide +kernel
theorem dL_follows_403 : decode cL_follows 403 = .ok (.iconst 0, 1) := by decide +kernel
theorem dL_follows_404 : decode cL_follows 404 = .ok (.istore 8, 2) := by decide +kernel
theorem dL_follows_406 : decode cL_follows 406 = .ok (.iinc 17 1, 3) := by decide +kernel
theorem dL_follows_409 : decode cL_follows 409 = .ok (.goto (-96), 3) := by decide +kernel
theorem dL_follows_412 : decode cL_follows 412 = .ok (.iload_n 1, 1) := by decide +kernel
theorem dL_follows_413 : decode cL_follows 413 = .ok (.bipush 7, 2) := by decide +kernel
theorem dL_follows_415 : decode cL_follows 415 = .ok (.idiv, 1) := by decide +kernel
theorem dL_follows_416 : decode cL_follows 416 = .ok (.sipush 3000, 3) := by decide +kernel
theorem dL_follows_419 : decode cL_follows 419 = .ok (.irem, 1) := by decide +kernel
theorem dL_follows_420 : decode cL_follows 420 = .ok (.istore 17, 2) := by decide +kernel
theorem dL_follows_422 : decode cL_follows 422 = .ok (.aload_n 0, 1) := by decide +kernel
theorem dL_follows_423 : decode cL_follows 423 = .ok (.iload 17, 2) := by decide +kernel
theorem dL_follows_425 : decode cL_follows 425 = .ok (.invokestatic 144, 3) := by decide +kernel
theorem dL_follows_428 : decode cL_follows 428 = .ok (.lstore 18, 2) := by decide +kernel
theorem dL_follows_430 : decode cL_follows 430 = .ok (.lload 18, 2) := by decide +kernel
theorem dL_follows_432 : decode cL_follows 432 = .ok (.lconst 0, 1) := by decide +kernel
theorem dL_follows_433 : decode cL_follows 433 = .ok (.lcmp, 1) := by decide +kernel
theorem dL_follows_434 : decode cL_follows 434 = .ok (.ifCond .le 103, 3) := by decide +kernel
theorem dL_follows_437 : decode cL_follows 437 = .ok (.lload 18, 2) := by decide +kernel
theorem dL_follows_439 : decode cL_follows 439 = .ok (.ldc2_w 192, 3) := by decide +kernel
theorem dL_follows_442 : decode cL_follows 442 = .ok (.lcmp, 1) := by decide +kernel
theorem dL_follows_443 : decode cL_follows 443 = .ok (.ifCond .ge 94, 3) := by decide +kernel
theorem dL_follows_446 : decode cL_follows 446 = .ok (.iload 8, 2) := by decide +kernel
theorem dL_follows_448 : decode cL_follows 448 = .ok (.ifCond .eq 89, 3) := by decide +kernel
theorem dL_follows_451 : decode cL_follows 451 = .ok (.aload_n 0, 1) := by decide +kernel
theorem dL_follows_452 : decode cL_follows 452 = .ok (.lload 18, 2) := by decide +kernel
theorem dL_follows_454 : decode cL_follows 454 = .ok (.l2i, 1) := by decide +kernel
theorem dL_follows_455 : decode cL_follows 455 = .ok (.invokestatic 134, 3) := by decide +kernel
theorem dL_follows_458 : decode cL_follows 458 = .ok (.iload 17, 2) := by decide +kernel
theorem dL_follows_460 : decode cL_follows 460 = .ok (.i2l, 1) := by decide +kernel
theorem dL_follows_461 : decode cL_follows 461 = .ok (.lcmp, 1) := by decide +kernel
theorem dL_follows_462 : decode cL_follows 462 = .ok (.ifCond .gt 72, 3) := by decide +kernel
theorem dL_follows_465 : decode cL_follows 465 = .ok (.aload_n 0, 1) := by decide +kernel
theorem dL_follows_466 : decode cL_follows 466 = .ok (.bipush 8, 2) := by decide +kernel
theorem dL_follows_468 : decode cL_follows 468 = .ok (.invokestatic 104, 3) := by decide +kernel
theorem dL_follows_471 : decode cL_follows 471 = .ok (.iload 17, 2) := by decide +kernel
theorem dL_follows_473 : decode cL_follows 473 = .ok (.i2l, 1) := by decide +kernel
theorem dL_follows_474 : decode cL_follows 474 = .ok (.lcmp, 1) := by decide +kernel
theorem dL_follows_475 : decode cL_follows 475 = .ok (.ifCond .gt 59, 3) := by decide +kernel
theorem dL_follows_478 : decode cL_follows 478 = .ok (.aload_n 0, 1) := by decide +kernel
theorem dL_follows_479 : decode cL_follows 479 = .ok (.invokestatic 190, 3) := by decide +kernel
theorem dL_follows_482 : decode cL_follows 482 = .ok (.lconst 0, 1) := by decide +kernel
theorem dL_follows_483 : decode cL_follows 483 = .ok (.lcmp, 1) := by decide +kernel
theorem dL_follows_484 : decode cL_follows 484 = .ok (.ifCond .lt 50, 3) := by decide +kernel
theorem dL_follows_487 : decode cL_follows 487 = .ok (.lload 18, 2) := by decide +kernel
theorem dL_follows_489 : decode cL_follows 489 = .ok (.ldc2_w 178, 3) := by decide +kernel
theorem dL_follows_492 : decode cL_follows 492 = .ok (.lcmp, 1) := by decide +kernel
theorem dL_follows_493 : decode cL_follows 493 = .ok (.ifCond .lt 28, 3) := by decide +kernel
theorem dL_follows_496 : decode cL_follows 496 = .ok (.aload_n 0, 1) := by decide +kernel
theorem dL_follows_497 : decode cL_follows 497 = .ok (.lload 18, 2) := by decide +kernel
theorem dL_follows_499 : decode cL_follows 499 = .ok (.l2i, 1) := by decide +kernel
theorem dL_follows_500 : decode cL_follows 500 = .ok (.iconst 1, 1) := by decide +kernel
theorem dL_follows_501 : decode cL_follows 501 = .ok (.isub, 1) := by decide +kernel
theorem dL_follows_502 : decode cL_follows 502 = .ok (.invokestatic 134, 3) := by decide +kernel
theorem dL_follows_505 : decode cL_follows 505 = .ok (.iload 17, 2) := by decide +kernel
theorem dL_follows_507 : decode cL_follows 507 = .ok (.i2l, 1) := by decide +kernel
theorem dL_follows_508 : decode cL_follows 508 = .ok (.lcmp, 1) := by decide +kernel
theorem dL_follows_509 : decode cL_follows 509 = .ok (.ifCond .le 25, 3) := by decide +kernel
theorem dL_follows_512 : decode cL_follows 512 = .ok (.aload_n 0, 1) := by decide +kernel
theorem dL_follows_513 : decode cL_follows 513 = .ok (.invokestatic 190, 3) := by decide +kernel
theorem dL_follows_516 : decode cL_follows 516 = .ok (.lconst 0, 1) := by decide +kernel
theorem dL_follows_517 : decode cL_follows 517 = .ok (.lcmp, 1) := by decide +kernel
theorem dL_follows_518 : decode cL_follows 518 = .ok (.ifCond .lt 16, 3) := by decide +kernel
theorem dL_follows_521 : decode cL_follows 521 = .ok (.aload_n 0, 1) := by decide +kernel
theorem dL_follows_522 : decode cL_follows 522 = .ok (.invokestatic 122, 3) := by decide +kernel
theorem dL_follows_525 : decode cL_follows 525 = .ok (.lload_n 2, 1) := by decide +kernel
theorem dL_follows_526 : decode cL_follows 526 = .ok (.lcmp, 1) := by decide +kernel
theorem dL_follows_527 : decode cL_follows 527 = .ok (.ifCond .ne 7, 3) := by decide +kernel
theorem dL_follows_530 : decode cL_follows 530 = .ok (.iconst 1, 1) := by decide +kernel
theorem dL_follows_531 : decode cL_follows 531 = .ok (.goto 4, 3) := by decide +kernel
theorem dL_follows_534 : decode cL_follows 534 = .ok (.iconst 0, 1) := by decide +kernel
theorem dL_follows_535 : decode cL_follows 535 = .ok (.istore 8, 2) := by decide +kernel
theorem dL_follows_537 : decode cL_follows 537 = .ok (.iload_n 1, 1) := by decide +kernel
theorem dL_follows_538 : decode cL_follows 538 = .ok (.bipush 11, 2) := by decide +kernel
theorem dL_follows_540 : decode cL_follows 540 = .ok (.idiv, 1) := by decide +kernel
theorem dL_follows_541 : decode cL_follows 541 = .ok (.bipush 21, 2) := by decide +kernel
theorem dL_follows_543 : decode cL_follows 543 = .ok (.irem, 1) := by decide +kernel
theorem dL_follows_544 : decode cL_follows 544 = .ok (.istore 20, 2) := by decide +kernel
theorem dL_follows_546 : decode cL_follows 546 = .ok (.iconst 1, 1) := by decide +kernel
theorem dL_follows_547 : decode cL_follows 547 = .ok (.iload_n 1, 1) := by decide +kernel
theorem dL_follows_548 : decode cL_follows 548 = .ok (.bipush 13, 2) := by decide +kernel
theorem dL_follows_550 : decode cL_follows 550 = .ok (.idiv, 1) := by decide +kernel
theorem dL_follows_551 : decode cL_follows 551 = .ok (.bipush 9, 2) := by decide +kernel
theorem dL_follows_553 : decode cL_follows 553 = .ok (.irem, 1) := by decide +kernel
theorem dL_follows_554 : decode cL_follows 554 = .ok (.iadd, 1) := by decide +kernel
theorem dL_follows_555 : decode cL_follows 555 = .ok (.istore 21, 2) := by decide +kernel
theorem dL_follows_557 : decode cL_follows 557 = .ok (.iload 8, 2) := by decide +kernel
theorem dL_follows_559 : decode cL_follows 559 = .ok (.ifCond .eq 100, 3) := by decide +kernel
theorem dL_follows_562 : decode cL_follows 562 = .ok (.aload_n 0, 1) := by decide +kernel
theorem dL_follows_563 : decode cL_follows 563 = .ok (.iload 20, 2) := by decide +kernel
theorem dL_follows_565 : decode cL_follows 565 = .ok (.iload 21, 2) := by decide +kernel
theorem dL_follows_567 : decode cL_follows 567 = .ok (.iconst 0, 1) := by decide +kernel
theorem dL_follows_568 : decode cL_follows 568 = .ok (.invokestatic 146, 3) := by decide +kernel
theorem dL_follows_571 : decode cL_follows 571 = .ok (.aload_n 0, 1) := by decide +kernel
theorem dL_follows_572 : decode cL_follows 572 = .ok (.iload 20, 2) := by decide +kernel
theorem dL_follows_574 : decode cL_follows 574 = .ok (.iload 21, 2) := by decide +kernel
theorem dL_follows_576 : decode cL_follows 576 = .ok (.iconst 1, 1) := by decide +kernel
theorem dL_follows_577 : decode cL_follows 577 = .ok (.invokestatic 146, 3) := by decide +kernel
theorem dL_follows_580 : decode cL_follows 580 = .ok (.ladd, 1) := by decide +kernel
theorem dL_follows_581 : decode cL_follows 581 = .ok (.aload_n 0, 1) := by decide +kernel
theorem dL_follows_582 : decode cL_follows 582 = .ok (.iload 20, 2) := by decide +kernel
theorem dL_follows_584 : decode cL_follows 584 = .ok (.iload 21, 2) := by decide +kernel
theorem dL_follows_586 : decode cL_follows 586 = .ok (.iconst 2, 1) := by decide +kernel
theorem dL_follows_587 : decode cL_follows 587 = .ok (.invokestatic 146, 3) := by decide +kernel
theorem dL_follows_590 : decode cL_follows 590 = .ok (.ladd, 1) := by decide +kernel
theorem dL_follows_591 : decode cL_follows 591 = .ok (.aload_n 0, 1) := by decide +kernel
theorem dL_follows_592 : decode cL_follows 592 = .ok (.iload 20, 2) := by decide +kernel
theorem dL_follows_594 : decode cL_follows 594 = .ok (.iload 21, 2) := by decide +kernel
theorem dL_follows_596 : decode cL_follows 596 = .ok (.iconst 3, 1) := by decide +kernel
theorem dL_follows_597 : decode cL_follows 597 = .ok (.invokestatic 146, 3) := by decide +kernel
theorem dL_follows_600 : decode cL_follows 600 = .ok (.ladd, 1) := by decide +kernel
theorem dL_follows_601 : decode cL_follows 601 = .ok (.aload_n 0, 1) := by decide +kernel
theorem dL_follows_602 : decode cL_follows 602 = .ok (.bipush 9, 2) := by decide +kernel
theorem dL_follows_604 : decode cL_follows 604 = .ok (.invokestatic 104, 3) := by decide +kernel
theorem dL_follows_607 : decode cL_follows 607 = .ok (.lcmp, 1) := by decide +kernel
theorem dL_follows_608 : decode cL_follows 608 = .ok (.ifCond .ne 51, 3) := by decide +kernel
theorem dL_follows_611 : decode cL_follows 611 = .ok (.iload 20, 2) := by decide +kernel
theorem dL_follows_613 : decode cL_follows 613 = .ok (.ifCond .gt 16, 3) := by decide +kernel
theorem dL_follows_616 : decode cL_follows 616 = .ok (.aload_n 0, 1) := by decide +kernel
theorem dL_follows_617 : decode cL_follows 617 = .ok (.iconst 0, 1) := by decide +kernel
theorem dL_follows_618 : decode cL_follows 618 = .ok (.iload 21, 2) := by decide +kernel
theorem dL_follows_620 : decode cL_follows 620 = .ok (.iconst 1, 1) := by decide +kernel
theorem dL_follows_621 : decode cL_follows 621 = .ok (.invokestatic 146, 3) := by decide +kernel
theorem dL_follows_624 : decode cL_follows 624 = .ok (.lconst 0, 1) := by decide +kernel
theorem dL_follows_625 : decode cL_follows 625 = .ok (.lcmp, 1) := by decide +kernel
theorem dL_follows_626 : decode cL_follows 626 = .ok (.ifCond .ne 33, 3) := by decide +kernel
theorem dL_follows_629 : decode cL_follows 629 = .ok (.aload_n 0, 1) := by decide +kernel
theorem dL_follows_630 : decode cL_follows 630 = .ok (.iload_n 1, 1) := by decide +kernel
theorem dL_follows_631 : decode cL_follows 631 = .ok (.iconst 3, 1) := by decide +kernel
theorem dL_follows_632 : decode cL_follows 632 = .ok (.irem, 1) := by decide +kernel
theorem dL_follows_633 : decode cL_follows 633 = .ok (.invokestatic 149, 3) := by decide +kernel
theorem dL_follows_636 : decode cL_follows 636 = .ok (.lconst 0, 1) := by decide +kernel
theorem dL_follows_637 : decode cL_follows 637 = .ok (.ldc2_w 194, 3) := by decide +kernel
theorem dL_follows_640 : decode cL_follows 640 = .ok (.invokestatic 172, 3) := by decide +kernel
theorem dL_follows_643 : decode cL_follows 643 = .ok (.ifCond .eq 16, 3) := by decide +kernel
theorem dL_follows_646 : decode cL_follows 646 = .ok (.aload_n 0, 1) := by decide +kernel
theorem dL_follows_647 : decode cL_follows 647 = .ok (.invokestatic 122, 3) := by decide +kernel
theorem dL_follows_650 : decode cL_follows 650 = .ok (.lload_n 2, 1) := by decide +kernel
theorem dL_follows_651 : decode cL_follows 651 = .ok (.lcmp, 1) := by decide +kernel
theorem dL_follows_652 : decode cL_follows 652 = .ok (.ifCond .ne 7, 3) := by decide +kernel
theorem dL_follows_655 : decode cL_follows 655 = .ok (.iconst 1, 1) := by decide +kernel
theorem dL_follows_656 : decode cL_follows 656 = .ok (.goto 4, 3) := by decide +kernel
theorem dL_follows_659 : decode cL_follows 659 = .ok (.iconst 0, 1) := by decide +kernel
theorem dL_follows_660 : decode cL_follows 660 = .ok (.istore 8, 2) := by decide +kernel
theorem dL_follows_662 : decode cL_follows 662 = .ok (.aload_n 0, 1) := by decide +kernel
theorem dL_follows_663 : decode cL_follows 663 = .ok (.bipush 6, 2) := by decide +kernel
theorem dL_follows_665 : decode cL_follows 665 = .ok (.invokestatic 104, 3) := by decide +kernel
theorem dL_follows_668 : decode cL_follows 668 = .ok (.lstore 22, 2) := by decide +kernel
theorem dL_follows_670 : decode cL_follows 670 = .ok (.iload 8, 2) := by decide +kernel
theorem dL_follows_672 : decode cL_follows 672 = .ok (.ifCond .eq 67, 3) := by decide +kernel
theorem dL_follows_675 : decode cL_follows 675 = .ok (.aload_n 0, 1) := by decide +kernel
theorem dL_follows_676 : decode cL_follows 676 = .ok (.invokevirtual 196, 3) := by decide +kernel
theorem dL_follows_679 : decode cL_follows 679 = .ok (.i2l, 1) := by decide +kernel
theorem dL_follows_680 : decode cL_follows 680 = .ok (.lload 22, 2) := by decide +kernel
theorem dL_follows_682 : decode cL_follows 682 = .ok (.lcmp, 1) := by decide +kernel
theorem dL_follows_683 : decode cL_follows 683 = .ok (.ifCond .ne 56, 3) := by decide +kernel
theorem dL_follows_686 : decode cL_follows 686 = .ok (.aload_n 0, 1) := by decide +kernel
theorem dL_follows_687 : decode cL_follows 687 = .ok (.bipush 6, 2) := by decide +kernel
theorem dL_follows_689 : decode cL_follows 689 = .ok (.invokestatic 104, 3) := by decide +kernel
theorem dL_follows_692 : decode cL_follows 692 = .ok (.lconst 0, 1) := by decide +kernel
theorem dL_follows_693 : decode cL_follows 693 = .ok (.lcmp, 1) := by decide +kernel
theorem dL_follows_694 : decode cL_follows 694 = .ok (.ifCond .ne 45, 3) := by decide +kernel
theorem dL_follows_697 : decode cL_follows 697 = .ok (.aload_n 0, 1) := by decide +kernel
theorem dL_follows_698 : decode cL_follows 698 = .ok (.iconst 2, 1) := by decide +kernel
theorem dL_follows_699 : decode cL_follows 699 = .ok (.invokestatic 130, 3) := by decide +kernel
theorem dL_follows_702 : decode cL_follows 702 = .ok (.lconst 0, 1) := by decide +kernel
theorem dL_follows_703 : decode cL_follows 703 = .ok (.lcmp, 1) := by decide +kernel
theorem dL_follows_704 : decode cL_follows 704 = .ok (.ifCond .ne 35, 3) := by decide +kernel
theorem dL_follows_707 : decode cL_follows 707 = .ok (.aload_n 0, 1) := by decide +kernel
theorem dL_follows_708 : decode cL_follows 708 = .ok (.invokevirtual 118, 3) := by decide +kernel
theorem dL_follows_711 : decode cL_follows 711 = .ok (.lload 13, 2) := by decide +kernel
theorem dL_follows_713 : decode cL_follows 713 = .ok (.lcmp, 1) := by decide +kernel
theorem dL_follows_714 : decode cL_follows 714 = .ok (.ifCond .ne 25, 3) := by decide +kernel
theorem dL_follows_717 : decode cL_follows 717 = .ok (.aload_n 0, 1) := by decide +kernel
theorem dL_follows_718 : decode cL_follows 718 = .ok (.invokestatic 190, 3) := by decide +kernel
theorem dL_follows_721 : decode cL_follows 721 = .ok (.lconst 0, 1) := by decide +kernel
theorem dL_follows_722 : decode cL_follows 722 = .ok (.lcmp, 1) := by decide +kernel
theorem dL_follows_723 : decode cL_follows 723 = .ok (.ifCond .lt 16, 3) := by decide +kernel
theorem dL_follows_726 : decode cL_follows 726 = .ok (.aload_n 0, 1) := by decide +kernel
theorem dL_follows_727 : decode cL_follows 727 = .ok (.invokestatic 122, 3) := by decide +kernel
theorem dL_follows_730 : decode cL_follows 730 = .ok (.lload_n 2, 1) := by decide +kernel
theorem dL_follows_731 : decode cL_follows 731 = .ok (.lcmp, 1) := by decide +kernel
theorem dL_follows_732 : decode cL_follows 732 = .ok (.ifCond .ne 7, 3) := by decide +kernel
theorem dL_follows_735 : decode cL_follows 735 = .ok (.iconst 1, 1) := by decide +kernel
theorem dL_follows_736 : decode cL_follows 736 = .ok (.goto 4, 3) := by decide +kernel
theorem dL_follows_739 : decode cL_follows 739 = .ok (.iconst 0, 1) := by decide +kernel
theorem dL_follows_740 : decode cL_follows 740 = .ok (.istore 8, 2) := by decide +kernel
theorem dL_follows_742 : decode cL_follows 742 = .ok (.iload 8, 2) := by decide +kernel
theorem dL_follows_744 : decode cL_follows 744 = .ok (.ifCond .eq 38, 3) := by decide +kernel
theorem dL_follows_747 : decode cL_follows 747 = .ok (.aload_n 0, 1) := by decide +kernel
theorem dL_follows_748 : decode cL_follows 748 = .ok (.iconst 1, 1) := by decide +kernel
theorem dL_follows_749 : decode cL_follows 749 = .ok (.invokestatic 162, 3) := by decide +kernel
theorem dL_follows_752 : decode cL_follows 752 = .ok (.lload 4, 2) := by decide +kernel
theorem dL_follows_754 : decode cL_follows 754 = .ok (.lcmp, 1) := by decide +kernel
theorem dL_follows_755 : decode cL_follows 755 = .ok (.ifCond .ne 27, 3) := by decide +kernel
theorem dL_follows_758 : decode cL_follows 758 = .ok (.aload_n 0, 1) := by decide +kernel
theorem dL_follows_759 : decode cL_follows 759 = .ok (.invokestatic 122, 3) := by decide +kernel
theorem dL_follows_762 : decode cL_follows 762 = .ok (.lload_n 2, 1) := by decide +kernel
theorem dL_follows_763 : decode cL_follows 763 = .ok (.lcmp, 1) := by decide +kernel
theorem dL_follows_764 : decode cL_follows 764 = .ok (.ifCond .ne 18, 3) := by decide +kernel
theorem dL_follows_767 : decode cL_follows 767 = .ok (.aload_n 0, 1) := by decide +kernel
theorem dL_follows_768 : decode cL_follows 768 = .ok (.invokestatic 190, 3) := by decide +kernel
theorem dL_follows_771 : decode cL_follows 771 = .ok (.ldc2_w 21, 3) := by decide +kernel
theorem dL_follows_774 : decode cL_follows 774 = .ok (.lcmp, 1) := by decide +kernel
theorem dL_follows_775 : decode cL_follows 775 = .ok (.ifCond .ne 7, 3) := by decide +kernel
theorem dL_follows_778 : decode cL_follows 778 = .ok (.iconst 1, 1) := by decide +kernel
theorem dL_follows_779 : decode cL_follows 779 = .ok (.goto 4, 3) := by decide +kernel
theorem dL_follows_782 : decode cL_follows 782 = .ok (.iconst 0, 1) := by decide +kernel
theorem dL_follows_783 : decode cL_follows 783 = .ok (.ireturn, 1) := by decide +kernel
theorem dL_alike_0 : decode cL_alike 0 = .ok (.aload_n 0, 1) := by decide +kernel
theorem dL_alike_1 : decode cL_alike 1 = .ok (.invokestatic 122, 3) := by decide +kernel
theorem dL_alike_4 : decode cL_alike 4 = .ok (.aload_n 1, 1) := by decide +kernel
theorem dL_alike_5 : decode cL_alike 5 = .ok (.invokestatic 122, 3) := by decide +kernel
theorem dL_alike_8 : decode cL_alike 8 = .ok (.lcmp, 1) := by decide +kernel
theorem dL_alike_9 : decode cL_alike 9 = .ok (.ifCond .ne 220, 3) := by decide +kernel
theorem dL_alike_12 : decode cL_alike 12 = .ok (.aload_n 0, 1) := by decide +kernel
theorem dL_alike_13 : decode cL_alike 13 = .ok (.invokevirtual 199, 3) := by decide +kernel
theorem dL_alike_16 : decode cL_alike 16 = .ok (.aload_n 1, 1) := by decide +kernel
theorem dL_alike_17 : decode cL_alike 17 = .ok (.invokevirtual 199, 3) := by decide +kernel
theorem dL_alike_20 : decode cL_alike 20 = .ok (.if_icmp .ne 209, 3) := by decide +kernel
theorem dL_alike_23 : decode cL_alike 23 = .ok (.aload_n 0, 1) := by decide +kernel
theorem dL_alike_24 : decode cL_alike 24 = .ok (.iload_n 2, 1) := by decide +kernel
theorem dL_alike_25 : decode cL_alike 25 = .ok (.iconst 3, 1) := by decide +kernel
theorem dL_alike_26 : decode cL_alike 26 = .ok (.irem, 1) := by decide +kernel
theorem dL_alike_27 : decode cL_alike 27 = .ok (.invokestatic 130, 3) := by decide +kernel
theorem dL_alike_30 : decode cL_alike 30 = .ok (.aload_n 1, 1) := by decide +kernel
theorem dL_alike_31 : decode cL_alike 31 = .ok (.iload_n 2, 1) := by decide +kernel
theorem dL_alike_32 : decode cL_alike 32 = .ok (.iconst 3, 1) := by decide +kernel
theorem dL_alike_33 : decode cL_alike 33 = .ok (.irem, 1) := by decide +kernel
theorem dL_alike_34 : decode cL_alike 34 = .ok (.invokestatic 130, 3) := by decide +kernel
theorem dL_alike_37 : decode cL_alike 37 = .ok (.lcmp, 1) := by decide +kernel
theorem dL_alike_38 : decode cL_alike 38 = .ok (.ifCond .ne 191, 3) := by decide +kernel
theorem dL_alike_41 : decode cL_alike 41 = .ok (.aload_n 0, 1) := by decide +kernel
theorem dL_alike_42 : decode cL_alike 42 = .ok (.iload_n 2, 1) := by decide +kernel
theorem dL_alike_43 : decode cL_alike 43 = .ok (.bipush 100, 2) := by decide +kernel
theorem dL_alike_45 : decode cL_alike 45 = .ok (.irem, 1) := by decide +kernel
theorem dL_alike_46 : decode cL_alike 46 = .ok (.iconst 1, 1) := by decide +kernel
theorem dL_alike_47 : decode cL_alike 47 = .ok (.iload_n 2, 1) := by decide +kernel
theorem dL_alike_48 : decode cL_alike 48 = .ok (.bipush 60, 2) := by decide +kernel
theorem dL_alike_50 : decode cL_alike 50 = .ok (.irem, 1) := by decide +kernel
theorem dL_alike_51 : decode cL_alike 51 = .ok (.iadd, 1) := by decide +kernel
theorem dL_alike_52 : decode cL_alike 52 = .ok (.invokestatic 140, 3) := by decide +kernel
theorem dL_alike_55 : decode cL_alike 55 = .ok (.aload_n 1, 1) := by decide +kernel
theorem dL_alike_56 : decode cL_alike 56 = .ok (.iload_n 2, 1) := by decide +kernel
theorem dL_alike_57 : decode cL_alike 57 = .ok (.bipush 100, 2) := by decide +kernel
theorem dL_alike_59 : decode cL_alike 59 = .ok (.irem, 1) := by decide +kernel
theorem dL_alike_60 : decode cL_alike 60 = .ok (.iconst 1, 1) := by decide +kernel
theorem dL_alike_61 : decode cL_alike 61 = .ok (.iload_n 2, 1) := by decide +kernel
theorem dL_alike_62 : decode cL_alike 62 = .ok (.bipush 60, 2) := by decide +kernel
theorem dL_alike_64 : decode cL_alike 64 = .ok (.irem, 1) := by decide +kernel
theorem dL_alike_65 : decode cL_alike 65 = .ok (.iadd, 1) := by decide +kernel
theorem dL_alike_66 : decode cL_alike 66 = .ok (.invokestatic 140, 3) := by decide +kernel
theorem dL_alike_69 : decode cL_alike 69 = .ok (.lcmp, 1) := by decide +kernel
theorem dL_alike_70 : decode cL_alike 70 = .ok (.ifCond .ne 159, 3) := by decide +kernel
theorem dL_alike_73 : decode cL_alike 73 = .ok (.aload_n 0, 1) := by decide +kernel
theorem dL_alike_74 : decode cL_alike 74 = .ok (.iload_n 2, 1) := by decide +kernel
theorem dL_alike_75 : decode cL_alike 75 = .ok (.bipush 9, 2) := by decide +kernel
theorem dL_alike_77 : decode cL_alike 77 = .ok (.irem, 1) := by decide +kernel
theorem dL_alike_78 : decode cL_alike 78 = .ok (.invokestatic 142, 3) := by decide +kernel
theorem dL_alike_81 : decode cL_alike 81 = .ok (.aload_n 1, 1) := by decide +kernel
theorem dL_alike_82 : decode cL_alike 82 = .ok (.iload_n 2, 1) := by decide +kernel
theorem dL_alike_83 : decode cL_alike 83 = .ok (.bipush 9, 2) := by decide +kernel
theorem dL_alike_85 : decode cL_alike 85 = .ok (.irem, 1) := by decide +kernel
theorem dL_alike_86 : decode cL_alike 86 = .ok (.invokestatic 142, 3) := by decide +kernel
theorem dL_alike_89 : decode cL_alike 89 = .ok (.lcmp, 1) := by decide +kernel
theorem dL_alike_90 : decode cL_alike 90 = .ok (.ifCond .ne 139, 3) := by decide +kernel
theorem dL_alike_93 : decode cL_alike 93 = .ok (.aload_n 0, 1) := by decide +kernel
theorem dL_alike_94 : decode cL_alike 94 = .ok (.iload_n 2, 1) := by decide +kernel
theorem dL_alike_95 : decode cL_alike 95 = .ok (.sipush 500, 3) := by decide +kernel
theorem dL_alike_98 : decode cL_alike 98 = .ok (.irem, 1) := by decide +kernel
theorem dL_alike_99 : decode cL_alike 99 = .ok (.invokestatic 144, 3) := by decide +kernel
theorem dL_alike_102 : decode cL_alike 102 = .ok (.aload_n 1, 1) := by decide +kernel
theorem dL_alike_103 : decode cL_alike 103 = .ok (.iload_n 2, 1) := by decide +kernel
theorem dL_alike_104 : decode cL_alike 104 = .ok (.sipush 500, 3) := by decide +kernel
theorem dL_alike_107 : decode cL_alike 107 = .ok (.irem, 1) := by decide +kernel
theorem dL_alike_108 : decode cL_alike 108 = .ok (.invokestatic 144, 3) := by decide +kernel
theorem dL_alike_111 : decode cL_alike 111 = .ok (.lcmp, 1) := by decide +kernel
theorem dL_alike_112 : decode cL_alike 112 = .ok (.ifCond .ne 117, 3) := by decide +kernel
theorem dL_alike_115 : decode cL_alike 115 = .ok (.aload_n 0, 1) := by decide +kernel
theorem dL_alike_116 : decode cL_alike 116 = .ok (.iload_n 2, 1) := by decide +kernel
theorem dL_alike_117 : decode cL_alike 117 = .ok (.bipush 21, 2) := by decide +kernel
theorem dL_alike_119 : decode cL_alike 119 = .ok (.irem, 1) := by decide +kernel
theorem dL_alike_120 : decode cL_alike 120 = .ok (.iconst 1, 1) := by decide +kernel
theorem dL_alike_121 : decode cL_alike 121 = .ok (.iload_n 2, 1) := by decide +kernel
theorem dL_alike_122 : decode cL_alike 122 = .ok (.bipush 9, 2) := by decide +kernel
theorem dL_alike_124 : decode cL_alike 124 = .ok (.irem, 1) := by decide +kernel
theorem dL_alike_125 : decode cL_alike 125 = .ok (.iadd, 1) := by decide +kernel
theorem dL_alike_126 : decode cL_alike 126 = .ok (.iload_n 2, 1) := by decide +kernel
theorem dL_alike_127 : decode cL_alike 127 = .ok (.iconst 4, 1) := by decide +kernel
theorem dL_alike_128 : decode cL_alike 128 = .ok (.irem, 1) := by decide +kernel
theorem dL_alike_129 : decode cL_alike 129 = .ok (.invokestatic 146, 3) := by decide +kernel
theorem dL_alike_132 : decode cL_alike 132 = .ok (.aload_n 1, 1) := by decide +kernel
theorem dL_alike_133 : decode cL_alike 133 = .ok (.iload_n 2, 1) := by decide +kernel
theorem dL_alike_134 : decode cL_alike 134 = .ok (.bipush 21, 2) := by decide +kernel
theorem dL_alike_136 : decode cL_alike 136 = .ok (.irem, 1) := by decide +kernel
theorem dL_alike_137 : decode cL_alike 137 = .ok (.iconst 1, 1) := by decide +kernel
theorem dL_alike_138 : decode cL_alike 138 = .ok (.iload_n 2, 1) := by decide +kernel
theorem dL_alike_139 : decode cL_alike 139 = .ok (.bipush 9, 2) := by decide +kernel
theorem dL_alike_141 : decode cL_alike 141 = .ok (.irem, 1) := by decide +kernel
theorem dL_alike_142 : decode cL_alike 142 = .ok (.iadd, 1) := by decide +kernel
theorem dL_alike_143 : decode cL_alike 143 = .ok (.iload_n 2, 1) := by decide +kernel
theorem dL_alike_144 : decode cL_alike 144 = .ok (.iconst 4, 1) := by decide +kernel
theorem dL_alike_145 : decode cL_alike 145 = .ok (.irem, 1) := by decide +kernel
theorem dL_alike_146 : decode cL_alike 146 = .ok (.invokestatic 146, 3) := by decide +kernel
theorem dL_alike_149 : decode cL_alike 149 = .ok (.lcmp, 1) := by decide +kernel
theorem dL_alike_150 : decode cL_alike 150 = .ok (.ifCond .ne 79, 3) := by decide +kernel
theorem dL_alike_153 : decode cL_alike 153 = .ok (.aload_n 0, 1) := by decide +kernel
theorem dL_alike_154 : decode cL_alike 154 = .ok (.iload_n 2, 1) := by decide +kernel
theorem dL_alike_155 : decode cL_alike 155 = .ok (.iconst 3, 1) := by decide +kernel
theorem dL_alike_156 : decode cL_alike 156 = .ok (.irem, 1) := by decide +kernel
theorem dL_alike_157 : decode cL_alike 157 = .ok (.invokestatic 149, 3) := by decide +kernel
theorem dL_alike_160 : decode cL_alike 160 = .ok (.aload_n 1, 1) := by decide +kernel
theorem dL_alike_161 : decode cL_alike 161 = .ok (.iload_n 2, 1) := by decide +kernel
theorem dL_alike_162 : decode cL_alike 162 = .ok (.iconst 3, 1) := by decide +kernel
theorem dL_alike_163 : decode cL_alike 163 = .ok (.irem, 1) := by decide +kernel
theorem dL_alike_164 : decode cL_alike 164 = .ok (.invokestatic 149, 3) := by decide +kernel
theorem dL_alike_167 : decode cL_alike 167 = .ok (.lcmp, 1) := by decide +kernel
theorem dL_alike_168 : decode cL_alike 168 = .ok (.ifCond .ne 61, 3) := by decide +kernel
theorem dL_alike_171 : decode cL_alike 171 = .ok (.aload_n 0, 1) := by decide +kernel
theorem dL_alike_172 : decode cL_alike 172 = .ok (.iload_n 2, 1) := by decide +kernel
theorem dL_alike_173 : decode cL_alike 173 = .ok (.i2l, 1) := by decide +kernel
theorem dL_alike_174 : decode cL_alike 174 = .ok (.bipush 20, 2) := by decide +kernel
theorem dL_alike_176 : decode cL_alike 176 = .ok (.invokestatic 157, 3) := by decide +kernel
theorem dL_alike_179 : decode cL_alike 179 = .ok (.aload_n 1, 1) := by decide +kernel
theorem dL_alike_180 : decode cL_alike 180 = .ok (.iload_n 2, 1) := by decide +kernel
theorem dL_alike_181 : decode cL_alike 181 = .ok (.i2l, 1) := by decide +kernel
theorem dL_alike_182 : decode cL_alike 182 = .ok (.bipush 20, 2) := by decide +kernel
theorem dL_alike_184 : decode cL_alike 184 = .ok (.invokestatic 157, 3) := by decide +kernel
theorem dL_alike_187 : decode cL_alike 187 = .ok (.lcmp, 1) := by decide +kernel
theorem dL_alike_188 : decode cL_alike 188 = .ok (.ifCond .ne 41, 3) := by decide +kernel
theorem dL_alike_191 : decode cL_alike 191 = .ok (.aload_n 0, 1) := by decide +kernel
theorem dL_alike_192 : decode cL_alike 192 = .ok (.iconst 3, 1) := by decide +kernel
theorem dL_alike_193 : decode cL_alike 193 = .ok (.ldc2_w 202, 3) := by decide +kernel
theorem dL_alike_196 : decode cL_alike 196 = .ok (.iload_n 2, 1) := by decide +kernel
theorem dL_alike_197 : decode cL_alike 197 = .ok (.sipush 900, 3) := by decide +kernel
theorem dL_alike_200 : decode cL_alike 200 = .ok (.irem, 1) := by decide +kernel
theorem dL_alike_201 : decode cL_alike 201 = .ok (.i2l, 1) := by decide +kernel
theorem dL_alike_202 : decode cL_alike 202 = .ok (.ladd, 1) := by decide +kernel
theorem dL_alike_203 : decode cL_alike 203 = .ok (.invokestatic 151, 3) := by decide +kernel
theorem dL_alike_206 : decode cL_alike 206 = .ok (.aload_n 1, 1) := by decide +kernel
theorem dL_alike_207 : decode cL_alike 207 = .ok (.iconst 3, 1) := by decide +kernel
theorem dL_alike_208 : decode cL_alike 208 = .ok (.ldc2_w 202, 3) := by decide +kernel
theorem dL_alike_211 : decode cL_alike 211 = .ok (.iload_n 2, 1) := by decide +kernel
theorem dL_alike_212 : decode cL_alike 212 = .ok (.sipush 900, 3) := by decide +kernel
theorem dL_alike_215 : decode cL_alike 215 = .ok (.irem, 1) := by decide +kernel
theorem dL_alike_216 : decode cL_alike 216 = .ok (.i2l, 1) := by decide +kernel
theorem dL_alike_217 : decode cL_alike 217 = .ok (.ladd, 1) := by decide +kernel
theorem dL_alike_218 : decode cL_alike 218 = .ok (.invokestatic 151, 3) := by decide +kernel
theorem dL_alike_221 : decode cL_alike 221 = .ok (.lcmp, 1) := by decide +kernel
theorem dL_alike_222 : decode cL_alike 222 = .ok (.ifCond .ne 7, 3) := by decide +kernel
theorem dL_alike_225 : decode cL_alike 225 = .ok (.iconst 1, 1) := by decide +kernel
theorem dL_alike_226 : decode cL_alike 226 = .ok (.goto 4, 3) := by decide +kernel
theorem dL_alike_229 : decode cL_alike 229 = .ok (.iconst 0, 1) := by decide +kernel
theorem dL_alike_230 : decode cL_alike 230 = .ok (.ireturn, 1) := by decide +kernel
theorem dL_types_0 : decode cL_types 0 = .ok (.aload_n 0, 1) := by decide +kernel
theorem dL_types_1 : decode cL_types 1 = .ok (.bipush 48, 2) := by decide +kernel
theorem dL_types_3 : decode cL_types 3 = .ok (.iload_n 1, 1) := by decide +kernel
theorem dL_types_4 : decode cL_types 4 = .ok (.bipush 10, 2) := by decide +kernel
theorem dL_types_6 : decode cL_types 6 = .ok (.idiv, 1) := by decide +kernel
theorem dL_types_7 : decode cL_types 7 = .ok (.iadd, 1) := by decide +kernel
theorem dL_types_8 : decode cL_types 8 = .ok (.invokestatic 164, 3) := by decide +kernel
theorem dL_types_11 : decode cL_types 11 = .ok (.lconst 0, 1) := by decide +kernel
theorem dL_types_12 : decode cL_types 12 = .ok (.lcmp, 1) := by decide +kernel
theorem dL_types_13 : decode cL_types 13 = .ok (.ifCond .le 23, 3) := by decide +kernel
theorem dL_types_16 : decode cL_types 16 = .ok (.aload_n 0, 1) := by decide +kernel
theorem dL_types_17 : decode cL_types 17 = .ok (.bipush 48, 2) := by decide +kernel
theorem dL_types_19 : decode cL_types 19 = .ok (.iload_n 1, 1) := by decide +kernel
theorem dL_types_20 : decode cL_types 20 = .ok (.bipush 10, 2) := by decide +kernel
theorem dL_types_22 : decode cL_types 22 = .ok (.irem, 1) := by decide +kernel
theorem dL_types_23 : decode cL_types 23 = .ok (.iadd, 1) := by decide +kernel
theorem dL_types_24 : decode cL_types 24 = .ok (.invokestatic 164, 3) := by decide +kernel
theorem dL_types_27 : decode cL_types 27 = .ok (.lconst 0, 1) := by decide +kernel
theorem dL_types_28 : decode cL_types 28 = .ok (.lcmp, 1) := by decide +kernel
theorem dL_types_29 : decode cL_types 29 = .ok (.ifCond .le 7, 3) := by decide +kernel
theorem dL_types_32 : decode cL_types 32 = .ok (.iconst 1, 1) := by decide +kernel
theorem dL_types_33 : decode cL_types 33 = .ok (.goto 4, 3) := by decide +kernel
theorem dL_types_36 : decode cL_types 36 = .ok (.iconst 0, 1) := by decide +kernel
theorem dL_types_37 : decode cL_types 37 = .ok (.ireturn, 1) := by decide +kernel
theorem dL_tells_0 : decode cL_tells 0 = .ok (.aload_n 0, 1) := by decide +kernel
theorem dL_tells_1 : decode cL_tells 1 = .ok (.invokevirtual 204, 3) := by decide +kernel
theorem dL_tells_4 : decode cL_tells 4 = .ok (.ifCond .lt 18, 3) := by decide +kernel
theorem dL_tells_7 : decode cL_tells 7 = .ok (.aload_n 0, 1) := by decide +kernel
theorem dL_tells_8 : decode cL_tells 8 = .ok (.bipush 80, 2) := by decide +kernel
theorem dL_tells_10 : decode cL_tells 10 = .ok (.invokestatic 164, 3) := by decide +kernel
theorem dL_tells_13 : decode cL_tells 13 = .ok (.lconst 1, 1) := by decide +kernel
theorem dL_tells_14 : decode cL_tells 14 = .ok (.lcmp, 1) := by decide +kernel
theorem dL_tells_15 : decode cL_tells 15 = .ok (.ifCond .ne 7, 3) := by decide +kernel
theorem dL_tells_18 : decode cL_tells 18 = .ok (.iconst 1, 1) := by decide +kernel
theorem dL_tells_19 : decode cL_tells 19 = .ok (.goto 4, 3) := by decide +kernel
theorem dL_tells_22 : decode cL_tells 22 = .ok (.iconst 0, 1) := by decide +kernel
theorem dL_tells_23 : decode cL_tells 23 = .ok (.istore_n 3, 1) := by decide +kernel
theorem dL_tells_24 : decode cL_tells 24 = .ok (.iconst 0, 1) := by decide +kernel
theorem dL_tells_25 : decode cL_tells 25 = .ok (.istore 4, 2) := by decide +kernel
theorem dL_tells_27 : decode cL_tells 27 = .ok (.iload 4, 2) := by decide +kernel
theorem dL_tells_29 : decode cL_tells 29 = .ok (.iload_n 2, 1) := by decide +kernel
theorem dL_tells_30 : decode cL_tells 30 = .ok (.bipush 19, 2) := by decide +kernel
theorem dL_tells_32 : decode cL_tells 32 = .ok (.irem, 1) := by decide +kernel
theorem dL_tells_33 : decode cL_tells 33 = .ok (.if_icmp .ge 211, 3) := by decide +kernel
theorem dL_tells_36 : decode cL_tells 36 = .ok (.iload_n 3, 1) := by decide +kernel
theorem dL_tells_37 : decode cL_tells 37 = .ok (.ifCond .eq 207, 3) := by decide +kernel
theorem dL_tells_40 : decode cL_tells 40 = .ok (.iload_n 1, 1) := by decide +kernel
theorem dL_tells_41 : decode cL_tells 41 = .ok (.iload 4, 2) := by decide +kernel
theorem dL_tells_43 : decode cL_tells 43 = .ok (.bipush 16, 2) := by decide +kernel
theorem dL_tells_45 : decode cL_tells 45 = .ok (.irem, 1) := by decide +kernel
theorem dL_tells_46 : decode cL_tells 46 = .ok (.ishr, 1) := by decide +kernel
theorem dL_tells_47 : decode cL_tells 47 = .ok (.sipush 32767, 3) := by decide +kernel
theorem dL_tells_50 : decode cL_tells 50 = .ok (.iand, 1) := by decide +kernel
theorem dL_tells_51 : decode cL_tells 51 = .ok (.bipush 37, 2) := by decide +kernel
theorem dL_tells_53 : decode cL_tells 53 = .ok (.iload 4, 2) := by decide +kernel
theorem dL_tells_55 : decode cL_tells 55 = .ok (.imul, 1) := by decide +kernel
theorem dL_tells_56 : decode cL_tells 56 = .ok (.iadd, 1) := by decide +kernel
theorem dL_tells_57 : decode cL_tells 57 = .ok (.istore 5, 2) := by decide +kernel
theorem dL_tells_59 : decode cL_tells 59 = .ok (.iload 5, 2) := by decide +kernel
theorem dL_tells_61 : decode cL_tells 61 = .ok (.bipush 9, 2) := by decide +kernel
theorem dL_tells_63 : decode cL_tells 63 = .ok (.irem, 1) := by decide +kernel
theorem dL_tells_64 : decode cL_tells 64 = .ok (.ifCond .ne 37, 3) := by decide +kernel
theorem dL_tells_67 : decode cL_tells 67 = .ok (.aload_n 0, 1) := by decide +kernel
theorem dL_tells_68 : decode cL_tells 68 = .ok (.bipush 116, 2) := by decide +kernel
theorem dL_tells_70 : decode cL_tells 70 = .ok (.invokestatic 164, 3) := by decide +kernel
theorem dL_tells_73 : decode cL_tells 73 = .ok (.lconst 0, 1) := by decide +kernel
theorem dL_tells_74 : decode cL_tells 74 = .ok (.lcmp, 1) := by decide +kernel
theorem dL_tells_75 : decode cL_tells 75 = .ok (.ifCond .le 22, 3) := by decide +kernel
theorem dL_tells_78 : decode cL_tells 78 = .ok (.aload_n 0, 1) := by decide +kernel
theorem dL_tells_79 : decode cL_tells 79 = .ok (.iload 5, 2) := by decide +kernel
theorem dL_tells_81 : decode cL_tells 81 = .ok (.bipush 9, 2) := by decide +kernel
theorem dL_tells_83 : decode cL_tells 83 = .ok (.idiv, 1) := by decide +kernel
theorem dL_tells_84 : decode cL_tells 84 = .ok (.bipush 41, 2) := by decide +kernel
theorem dL_tells_86 : decode cL_tells 86 = .ok (.irem, 1) := by decide +kernel
theorem dL_tells_87 : decode cL_tells 87 = .ok (.invokestatic 207, 3) := by decide +kernel
theorem dL_tells_90 : decode cL_tells 90 = .ok (.ifCond .eq 7, 3) := by decide +kernel
theorem dL_tells_93 : decode cL_tells 93 = .ok (.iconst 1, 1) := by decide +kernel
theorem dL_tells_94 : decode cL_tells 94 = .ok (.goto 143, 3) := by decide +kernel
theorem dL_tells_97 : decode cL_tells 97 = .ok (.iconst 0, 1) := by decide +kernel
theorem dL_tells_98 : decode cL_tells 98 = .ok (.goto 139, 3) := by decide +kernel
theorem dL_tells_101 : decode cL_tells 101 = .ok (.iload 5, 2) := by decide +kernel
theorem dL_tells_103 : decode cL_tells 103 = .ok (.bipush 9, 2) := by decide +kernel
theorem dL_tells_105 : decode cL_tells 105 = .ok (.irem, 1) := by decide +kernel
theorem dL_tells_106 : decode cL_tells 106 = .ok (.iconst 1, 1) := by decide +kernel
theorem dL_tells_107 : decode cL_tells 107 = .ok (.if_icmp .ne 37, 3) := by decide +kernel
theorem dL_tells_110 : decode cL_tells 110 = .ok (.aload_n 0, 1) := by decide +kernel
theorem dL_tells_111 : decode cL_tells 111 = .ok (.bipush 119, 2) := by decide +kernel
theorem dL_tells_113 : decode cL_tells 113 = .ok (.invokestatic 164, 3) := by decide +kernel
theorem dL_tells_116 : decode cL_tells 116 = .ok (.lconst 0, 1) := by decide +kernel
theorem dL_tells_117 : decode cL_tells 117 = .ok (.lcmp, 1) := by decide +kernel
theorem dL_tells_118 : decode cL_tells 118 = .ok (.ifCond .le 22, 3) := by decide +kernel
theorem dL_tells_121 : decode cL_tells 121 = .ok (.aload_n 0, 1) := by decide +kernel
theorem dL_tells_122 : decode cL_tells 122 = .ok (.iload 5, 2) := by decide +kernel
theorem dL_tells_124 : decode cL_tells 124 = .ok (.bipush 9, 2) := by decide +kernel
theorem dL_tells_126 : decode cL_tells 126 = .ok (.idiv, 1) := by decide +kernel
theorem dL_tells_127 : decode cL_tells 127 = .ok (.bipush 21, 2) := by decide +kernel
theorem dL_tells_129 : decode cL_tells 129 = .ok (.irem, 1) := by decide +kernel
theorem dL_tells_130 : decode cL_tells 130 = .ok (.invokestatic 207, 3) := by decide +kernel
theorem dL_tells_133 : decode cL_tells 133 = .ok (.ifCond .eq 7, 3) := by decide +kernel
theorem dL_tells_136 : decode cL_tells 136 = .ok (.iconst 1, 1) := by decide +kernel
theorem dL_tells_137 : decode cL_tells 137 = .ok (.goto 100, 3) := by decide +kernel
theorem dL_tells_140 : decode cL_tells 140 = .ok (.iconst 0, 1) := by decide +kernel
theorem dL_tells_141 : decode cL_tells 141 = .ok (.goto 96, 3) := by decide +kernel
theorem dL_tells_144 : decode cL_tells 144 = .ok (.iload 5, 2) := by decide +kernel
theorem dL_tells_146 : decode cL_tells 146 = .ok (.bipush 9, 2) := by decide +kernel
theorem dL_tells_148 : decode cL_tells 148 = .ok (.irem, 1) := by decide +kernel
theorem dL_tells_149 : decode cL_tells 149 = .ok (.iconst 2, 1) := by decide +kernel
theorem dL_tells_150 : decode cL_tells 150 = .ok (.if_icmp .ne 39, 3) := by decide +kernel
theorem dL_tells_153 : decode cL_tells 153 = .ok (.aload_n 0, 1) := by decide +kernel
theorem dL_tells_154 : decode cL_tells 154 = .ok (.bipush 112, 2) := by decide +kernel
theorem dL_tells_156 : decode cL_tells 156 = .ok (.invokestatic 164, 3) := by decide +kernel
theorem dL_tells_159 : decode cL_tells 159 = .ok (.lconst 0, 1) := by decide +kernel
theorem dL_tells_160 : decode cL_tells 160 = .ok (.lcmp, 1) := by decide +kernel
theorem dL_tells_161 : decode cL_tells 161 = .ok (.ifCond .le 24, 3) := by decide +kernel
theorem dL_tells_164 : decode cL_tells 164 = .ok (.aload_n 0, 1) := by decide +kernel
theorem dL_tells_165 : decode cL_tells 165 = .ok (.iconst 1, 1) := by decide +kernel
theorem dL_tells_166 : decode cL_tells 166 = .ok (.iload 5, 2) := by decide +kernel
theorem dL_tells_168 : decode cL_tells 168 = .ok (.bipush 9, 2) := by decide +kernel
theorem dL_tells_170 : decode cL_tells 170 = .ok (.idiv, 1) := by decide +kernel
theorem dL_tells_171 : decode cL_tells 171 = .ok (.bipush 99, 2) := by decide +kernel
theorem dL_tells_173 : decode cL_tells 173 = .ok (.irem, 1) := by decide +kernel
theorem dL_tells_174 : decode cL_tells 174 = .ok (.iadd, 1) := by decide +kernel
theorem dL_tells_175 : decode cL_tells 175 = .ok (.invokestatic 207, 3) := by decide +kernel
theorem dL_tells_178 : decode cL_tells 178 = .ok (.ifCond .eq 7, 3) := by decide +kernel
theorem dL_tells_181 : decode cL_tells 181 = .ok (.iconst 1, 1) := by decide +kernel
theorem dL_tells_182 : decode cL_tells 182 = .ok (.goto 55, 3) := by decide +kernel
theorem dL_tells_185 : decode cL_tells 185 = .ok (.iconst 0, 1) := by decide +kernel
theorem dL_tells_186 : decode cL_tells 186 = .ok (.goto 51, 3) := by decide +kernel
theorem dL_tells_189 : decode cL_tells 189 = .ok (.aload_n 0, 1) := by decide +kernel
theorem dL_tells_190 : decode cL_tells 190 = .ok (.bipush 100, 2) := by decide +kernel
theorem dL_tells_192 : decode cL_tells 192 = .ok (.invokestatic 164, 3) := by decide +kernel
theorem dL_tells_195 : decode cL_tells 195 = .ok (.lconst 0, 1) := by decide +kernel
theorem dL_tells_196 : decode cL_tells 196 = .ok (.lcmp, 1) := by decide +kernel
theorem dL_tells_197 : decode cL_tells 197 = .ok (.ifCond .le 39, 3) := by decide +kernel
theorem dL_tells_200 : decode cL_tells 200 = .ok (.aload_n 0, 1) := by decide +kernel
theorem dL_tells_201 : decode cL_tells 201 = .ok (.iload 5, 2) := by decide +kernel
theorem dL_tells_203 : decode cL_tells 203 = .ok (.bipush 9, 2) := by decide +kernel
theorem dL_tells_205 : decode cL_tells 205 = .ok (.idiv, 1) := by decide +kernel
theorem dL_tells_206 : decode cL_tells 206 = .ok (.bipush 7, 2) := by decide +kernel
theorem dL_tells_208 : decode cL_tells 208 = .ok (.irem, 1) := by decide +kernel
theorem dL_tells_209 : decode cL_tells 209 = .ok (.invokestatic 207, 3) := by decide +kernel
theorem dL_tells_212 : decode cL_tells 212 = .ok (.ifCond .eq 24, 3) := by decide +kernel
theorem dL_tells_215 : decode cL_tells 215 = .ok (.aload_n 0, 1) := by decide +kernel
theorem dL_tells_216 : decode cL_tells 216 = .ok (.iconst 1, 1) := by decide +kernel
theorem dL_tells_217 : decode cL_tells 217 = .ok (.iload 5, 2) := by decide +kernel
theorem dL_tells_219 : decode cL_tells 219 = .ok (.bipush 63, 2) := by decide +kernel
theorem dL_tells_221 : decode cL_tells 221 = .ok (.idiv, 1) := by decide +kernel
theorem dL_tells_222 : decode cL_tells 222 = .ok (.bipush 60, 2) := by decide +kernel
theorem dL_tells_224 : decode cL_tells 224 = .ok (.irem, 1) := by decide +kernel
theorem dL_tells_225 : decode cL_tells 225 = .ok (.iadd, 1) := by decide +kernel
theorem dL_tells_226 : decode cL_tells 226 = .ok (.invokestatic 207, 3) := by decide +kernel
theorem dL_tells_229 : decode cL_tells 229 = .ok (.ifCond .eq 7, 3) := by decide +kernel
theorem dL_tells_232 : decode cL_tells 232 = .ok (.iconst 1, 1) := by decide +kernel
theorem dL_tells_233 : decode cL_tells 233 = .ok (.goto 4, 3) := by decide +kernel
theorem dL_tells_236 : decode cL_tells 236 = .ok (.iconst 0, 1) := by decide +kernel
theorem dL_tells_237 : decode cL_tells 237 = .ok (.istore_n 3, 1) := by decide +kernel
theorem dL_tells_238 : decode cL_tells 238 = .ok (.iinc 4 1, 3) := by decide +kernel
theorem dL_tells_241 : decode cL_tells 241 = .ok (.goto (-214), 3) := by decide +kernel
theorem dL_tells_244 : decode cL_tells 244 = .ok (.iload_n 3, 1) := by decide +kernel
theorem dL_tells_245 : decode cL_tells 245 = .ok (.ifCond .eq 16, 3) := by decide +kernel
theorem dL_tells_248 : decode cL_tells 248 = .ok (.aload_n 0, 1) := by decide +kernel
theorem dL_tells_249 : decode cL_tells 249 = .ok (.invokevirtual 199, 3) := by decide +kernel
theorem dL_tells_252 : decode cL_tells 252 = .ok (.bipush (-9), 2) := by decide +kernel
theorem dL_tells_254 : decode cL_tells 254 = .ok (.if_icmp .ne 7, 3) := by decide +kernel
theorem dL_tells_257 : decode cL_tells 257 = .ok (.iconst 1, 1) := by decide +kernel
theorem dL_tells_258 : decode cL_tells 258 = .ok (.goto 4, 3) := by decide +kernel
theorem dL_tells_261 : decode cL_tells 261 = .ok (.iconst 0, 1) := by decide +kernel
theorem dL_tells_262 : decode cL_tells 262 = .ok (.ireturn, 1) := by decide +kernel
theorem dL_act_0 : decode cL_act 0 = .ok (.iload_n 1, 1) := by decide +kernel
theorem dL_act_1 : decode cL_act 1 = .ok (.bipush 18, 2) := by decide +kernel
theorem dL_act_3 : decode cL_act 3 = .ok (.irem, 1) := by decide +kernel
theorem dL_act_4 : decode cL_act 4 = .ok (.tableswitch 214 0 8 #[52, 62, 72, 90, 105, 156, 175, 203, 203], 52) := by decide +kernel
theorem dL_act_56 : decode cL_act 56 = .ok (.aload_n 0, 1) := by decide +kernel
theorem dL_act_57 : decode cL_act 57 = .ok (.iconst 0, 1) := by decide +kernel
theorem dL_act_58 : decode cL_act 58 = .ok (.iload_n 2, 1) := by decide +kernel
theorem dL_act_59 : decode cL_act 59 = .ok (.bipush 41, 2) := by decide +kernel
theorem dL_act_61 : decode cL_act 61 = .ok (.irem, 1) := by decide +kernel
theorem dL_act_62 : decode cL_act 62 = .ok (.invokestatic 136, 3) := by decide +kernel
theorem dL_act_65 : decode cL_act 65 = .ok (.lreturn, 1) := by decide +kernel
theorem dL_act_66 : decode cL_act 66 = .ok (.aload_n 0, 1) := by decide +kernel
theorem dL_act_67 : decode cL_act 67 = .ok (.iconst 1, 1) := by decide +kernel
theorem dL_act_68 : decode cL_act 68 = .ok (.iload_n 2, 1) := by decide +kernel
theorem dL_act_69 : decode cL_act 69 = .ok (.bipush 21, 2) := by decide +kernel
theorem dL_act_71 : decode cL_act 71 = .ok (.irem, 1) := by decide +kernel
theorem dL_act_72 : decode cL_act 72 = .ok (.invokestatic 136, 3) := by decide +kernel
theorem dL_act_75 : decode cL_act 75 = .ok (.lreturn, 1) := by decide +kernel
theorem dL_act_76 : decode cL_act 76 = .ok (.aload_n 0, 1) := by decide +kernel
theorem dL_act_77 : decode cL_act 77 = .ok (.iconst 2, 1) := by decide +kernel
theorem dL_act_78 : decode cL_act 78 = .ok (.iload_n 2, 1) := by decide +kernel
theorem dL_act_79 : decode cL_act 79 = .ok (.iconst 2, 1) := by decide +kernel
theorem dL_act_80 : decode cL_act 80 = .ok (.irem, 1) := by decide +kernel
theorem dL_act_81 : decode cL_act 81 = .ok (.iadd, 1) := by decide +kernel
theorem dL_act_82 : decode cL_act 82 = .ok (.iconst 1, 1) := by decide +kernel
theorem dL_act_83 : decode cL_act 83 = .ok (.iload_n 2, 1) := by decide +kernel
theorem dL_act_84 : decode cL_act 84 = .ok (.iconst 2, 1) := by decide +kernel
theorem dL_act_85 : decode cL_act 85 = .ok (.idiv, 1) := by decide +kernel
theorem dL_act_86 : decode cL_act 86 = .ok (.bipush 9, 2) := by decide +kernel
theorem dL_act_88 : decode cL_act 88 = .ok (.irem, 1) := by decide +kernel
theorem dL_act_89 : decode cL_act 89 = .ok (.iadd, 1) := by decide +kernel
theorem dL_act_90 : decode cL_act 90 = .ok (.invokestatic 136, 3) := by decide +kernel
theorem dL_act_93 : decode cL_act 93 = .ok (.lreturn, 1) := by decide +kernel
theorem dL_act_94 : decode cL_act 94 = .ok (.aload_n 0, 1) := by decide +kernel
theorem dL_act_95 : decode cL_act 95 = .ok (.iconst 4, 1) := by decide +kernel
theorem dL_act_96 : decode cL_act 96 = .ok (.sipush 500, 3) := by decide +kernel
theorem dL_act_99 : decode cL_act 99 = .ok (.iload_n 2, 1) := by decide +kernel
theorem dL_act_100 : decode cL_act 100 = .ok (.sipush 4501, 3) := by decide +kernel
theorem dL_act_103 : decode cL_act 103 = .ok (.irem, 1) := by decide +kernel
theorem dL_act_104 : decode cL_act 104 = .ok (.iadd, 1) := by decide +kernel
theorem dL_act_105 : decode cL_act 105 = .ok (.invokestatic 136, 3) := by decide +kernel
theorem dL_act_108 : decode cL_act 108 = .ok (.lreturn, 1) := by decide +kernel
theorem dL_act_109 : decode cL_act 109 = .ok (.aload_n 0, 1) := by decide +kernel
theorem dL_act_110 : decode cL_act 110 = .ok (.iconst 1, 1) := by decide +kernel
theorem dL_act_111 : decode cL_act 111 = .ok (.iload_n 2, 1) := by decide +kernel
theorem dL_act_112 : decode cL_act 112 = .ok (.bipush 7, 2) := by decide +kernel
theorem dL_act_114 : decode cL_act 114 = .ok (.irem, 1) := by decide +kernel
theorem dL_act_115 : decode cL_act 115 = .ok (.iadd, 1) := by decide +kernel
theorem dL_act_116 : decode cL_act 116 = .ok (.iload_n 2, 1) := by decide +kernel
theorem dL_act_117 : decode cL_act 117 = .ok (.iconst 3, 1) := by decide +kernel
theorem dL_act_118 : decode cL_act 118 = .ok (.irem, 1) := by decide +kernel
theorem dL_act_119 : decode cL_act 119 = .ok (.ifCond .ne 14, 3) := by decide +kernel
theorem dL_act_122 : decode cL_act 122 = .ok (.iload_n 2, 1) := by decide +kernel
theorem dL_act_123 : decode cL_act 123 = .ok (.bipush 7, 2) := by decide +kernel
theorem dL_act_125 : decode cL_act 125 = .ok (.idiv, 1) := by decide +kernel
theorem dL_act_126 : decode cL_act 126 = .ok (.sipush 5001, 3) := by decide +kernel
theorem dL_act_129 : decode cL_act 129 = .ok (.irem, 1) := by decide +kernel
theorem dL_act_130 : decode cL_act 130 = .ok (.goto 26, 3) := by decide +kernel
theorem dL_act_133 : decode cL_act 133 = .ok (.aload_n 0, 1) := by decide +kernel
theorem dL_act_134 : decode cL_act 134 = .ok (.iconst 1, 1) := by decide +kernel
theorem dL_act_135 : decode cL_act 135 = .ok (.iload_n 2, 1) := by decide +kernel
theorem dL_act_136 : decode cL_act 136 = .ok (.bipush 7, 2) := by decide +kernel
theorem dL_act_138 : decode cL_act 138 = .ok (.irem, 1) := by decide +kernel
theorem dL_act_139 : decode cL_act 139 = .ok (.iadd, 1) := by decide +kernel
theorem dL_act_140 : decode cL_act 140 = .ok (.iconst 0, 1) := by decide +kernel
theorem dL_act_141 : decode cL_act 141 = .ok (.invokestatic 111, 3) := by decide +kernel
theorem dL_act_144 : decode cL_act 144 = .ok (.l2i, 1) := by decide +kernel
theorem dL_act_145 : decode cL_act 145 = .ok (.bipush 9, 2) := by decide +kernel
theorem dL_act_147 : decode cL_act 147 = .ok (.isub, 1) := by decide +kernel
theorem dL_act_148 : decode cL_act 148 = .ok (.iload_n 2, 1) := by decide +kernel
theorem dL_act_149 : decode cL_act 149 = .ok (.bipush 21, 2) := by decide +kernel
theorem dL_act_151 : decode cL_act 151 = .ok (.idiv, 1) := by decide +kernel
theorem dL_act_152 : decode cL_act 152 = .ok (.bipush 19, 2) := by decide +kernel
theorem dL_act_154 : decode cL_act 154 = .ok (.irem, 1) := by decide +kernel
theorem dL_act_155 : decode cL_act 155 = .ok (.iadd, 1) := by decide +kernel
theorem dL_act_156 : decode cL_act 156 = .ok (.invokestatic 138, 3) := by decide +kernel
theorem dL_act_159 : decode cL_act 159 = .ok (.lreturn, 1) := by decide +kernel
theorem dL_act_160 : decode cL_act 160 = .ok (.iload_n 2, 1) := by decide +kernel
theorem dL_act_161 : decode cL_act 161 = .ok (.iconst 3, 1) := by decide +kernel
theorem dL_act_162 : decode cL_act 162 = .ok (.irem, 1) := by decide +kernel
theorem dL_act_163 : decode cL_act 163 = .ok (.ifCond .ne 11, 3) := by decide +kernel
theorem dL_act_166 : decode cL_act 166 = .ok (.aload_n 0, 1) := by decide +kernel
theorem dL_act_167 : decode cL_act 167 = .ok (.invokevirtual 196, 3) := by decide +kernel
theorem dL_act_170 : decode cL_act 170 = .ok (.i2l, 1) := by decide +kernel
theorem dL_act_171 : decode cL_act 171 = .ok (.goto 7, 3) := by decide +kernel
theorem dL_act_174 : decode cL_act 174 = .ok (.aload_n 0, 1) := by decide +kernel
theorem dL_act_175 : decode cL_act 175 = .ok (.invokestatic 190, 3) := by decide +kernel
theorem dL_act_178 : decode cL_act 178 = .ok (.lreturn, 1) := by decide +kernel
theorem dL_act_179 : decode cL_act 179 = .ok (.iload_n 2, 1) := by decide +kernel
theorem dL_act_180 : decode cL_act 180 = .ok (.iconst 2, 1) := by decide +kernel
theorem dL_act_181 : decode cL_act 181 = .ok (.irem, 1) := by decide +kernel
theorem dL_act_182 : decode cL_act 182 = .ok (.ifCond .ne 15, 3) := by decide +kernel
theorem dL_act_185 : decode cL_act 185 = .ok (.aload_n 0, 1) := by decide +kernel
theorem dL_act_186 : decode cL_act 186 = .ok (.iload_n 2, 1) := by decide +kernel
theorem dL_act_187 : decode cL_act 187 = .ok (.iconst 2, 1) := by decide +kernel
theorem dL_act_188 : decode cL_act 188 = .ok (.idiv, 1) := by decide +kernel
theorem dL_act_189 : decode cL_act 189 = .ok (.iconst 1, 1) := by decide +kernel
theorem dL_act_190 : decode cL_act 190 = .ok (.iand, 1) := by decide +kernel
theorem dL_act_191 : decode cL_act 191 = .ok (.invokestatic 160, 3) := by decide +kernel
theorem dL_act_194 : decode cL_act 194 = .ok (.goto 12, 3) := by decide +kernel
theorem dL_act_197 : decode cL_act 197 = .ok (.aload_n 0, 1) := by decide +kernel
theorem dL_act_198 : decode cL_act 198 = .ok (.iload_n 2, 1) := by decide +kernel
theorem dL_act_199 : decode cL_act 199 = .ok (.iconst 2, 1) := by decide +kernel
theorem dL_act_200 : decode cL_act 200 = .ok (.idiv, 1) := by decide +kernel
theorem dL_act_201 : decode cL_act 201 = .ok (.iconst 1, 1) := by decide +kernel
theorem dL_act_202 : decode cL_act 202 = .ok (.iand, 1) := by decide +kernel
theorem dL_act_203 : decode cL_act 203 = .ok (.invokestatic 162, 3) := by decide +kernel
theorem dL_act_206 : decode cL_act 206 = .ok (.lreturn, 1) := by decide +kernel
theorem dL_act_207 : decode cL_act 207 = .ok (.aload_n 0, 1) := by decide +kernel
theorem dL_act_208 : decode cL_act 208 = .ok (.iconst 1, 1) := by decide +kernel
theorem dL_act_209 : decode cL_act 209 = .ok (.iload_n 2, 1) := by decide +kernel
theorem dL_act_210 : decode cL_act 210 = .ok (.bipush 40, 2) := by decide +kernel
theorem dL_act_212 : decode cL_act 212 = .ok (.irem, 1) := by decide +kernel
theorem dL_act_213 : decode cL_act 213 = .ok (.iadd, 1) := by decide +kernel
theorem dL_act_214 : decode cL_act 214 = .ok (.invokestatic 134, 3) := by decide +kernel
theorem dL_act_217 : decode cL_act 217 = .ok (.lreturn, 1) := by decide +kernel
theorem dL_act_218 : decode cL_act 218 = .ok (.aload_n 0, 1) := by decide +kernel
theorem dL_act_219 : decode cL_act 219 = .ok (.iload_n 2, 1) := by decide +kernel
theorem dL_act_220 : decode cL_act 220 = .ok (.iconst 4, 1) := by decide +kernel
theorem dL_act_221 : decode cL_act 221 = .ok (.irem, 1) := by decide +kernel
theorem dL_act_222 : decode cL_act 222 = .ok (.ifCond .ne 12, 3) := by decide +kernel
theorem dL_act_225 : decode cL_act 225 = .ok (.iload_n 2, 1) := by decide +kernel
theorem dL_act_226 : decode cL_act 226 = .ok (.iconst 4, 1) := by decide +kernel
theorem dL_act_227 : decode cL_act 227 = .ok (.idiv, 1) := by decide +kernel
theorem dL_act_228 : decode cL_act 228 = .ok (.bipush 100, 2) := by decide +kernel
theorem dL_act_230 : decode cL_act 230 = .ok (.irem, 1) := by decide +kernel
theorem dL_act_231 : decode cL_act 231 = .ok (.goto 9, 3) := by decide +kernel
theorem dL_act_234 : decode cL_act 234 = .ok (.iload_n 2, 1) := by decide +kernel
theorem dL_act_235 : decode cL_act 235 = .ok (.iconst 4, 1) := by decide +kernel
theorem dL_act_236 : decode cL_act 236 = .ok (.idiv, 1) := by decide +kernel
theorem dL_act_237 : decode cL_act 237 = .ok (.bipush 6, 2) := by decide +kernel
theorem dL_act_239 : decode cL_act 239 = .ok (.irem, 1) := by decide +kernel
theorem dL_act_240 : decode cL_act 240 = .ok (.iconst 1, 1) := by decide +kernel
theorem dL_act_241 : decode cL_act 241 = .ok (.iload_n 2, 1) := by decide +kernel
theorem dL_act_242 : decode cL_act 242 = .ok (.sipush 400, 3) := by decide +kernel
theorem dL_act_245 : decode cL_act 245 = .ok (.idiv, 1) := by decide +kernel
theorem dL_act_246 : decode cL_act 246 = .ok (.bipush 60, 2) := by decide +kernel
theorem dL_act_248 : decode cL_act 248 = .ok (.irem, 1) := by decide +kernel
theorem dL_act_249 : decode cL_act 249 = .ok (.iadd, 1) := by decide +kernel
theorem dL_act_250 : decode cL_act 250 = .ok (.invokestatic 132, 3) := by decide +kernel
theorem dL_act_253 : decode cL_act 253 = .ok (.lreturn, 1) := by decide +kernel
theorem dL_law_0 : decode cL_law 0 = .ok (.new 10, 3) := by decide +kernel
theorem dL_law_3 : decode cL_law 3 = .ok (.dup, 1) := by decide +kernel
theorem dL_law_4 : decode cL_law 4 = .ok (.invokespecial 211, 3) := by decide +kernel
theorem dL_law_7 : decode cL_law 7 = .ok (.astore_n 1, 1) := by decide +kernel
theorem dL_law_8 : decode cL_law 8 = .ok (.new 10, 3) := by decide +kernel
theorem dL_law_11 : decode cL_law 11 = .ok (.dup, 1) := by decide +kernel
theorem dL_law_12 : decode cL_law 12 = .ok (.invokespecial 211, 3) := by decide +kernel
theorem dL_law_15 : decode cL_law 15 = .ok (.astore_n 2, 1) := by decide +kernel
theorem dL_law_16 : decode cL_law 16 = .ok (.aload_n 1, 1) := by decide +kernel
theorem dL_law_17 : decode cL_law 17 = .ok (.aload_n 2, 1) := by decide +kernel
theorem dL_law_18 : decode cL_law 18 = .ok (.aload_n 0, 1) := by decide +kernel
theorem dL_law_19 : decode cL_law 19 = .ok (.iconst 0, 1) := by decide +kernel
theorem dL_law_20 : decode cL_law 20 = .ok (.invokestatic 212, 3) := by decide +kernel
theorem dL_law_23 : decode cL_law 23 = .ok (.invokestatic 216, 3) := by decide +kernel
theorem dL_law_26 : decode cL_law 26 = .ok (.ifCond .eq 21, 3) := by decide +kernel
theorem dL_law_29 : decode cL_law 29 = .ok (.aload_n 1, 1) := by decide +kernel
theorem dL_law_30 : decode cL_law 30 = .ok (.invokestatic 220, 3) := by decide +kernel
theorem dL_law_33 : decode cL_law 33 = .ok (.ifCond .eq 14, 3) := by decide +kernel
theorem dL_law_36 : decode cL_law 36 = .ok (.aload_n 1, 1) := by decide +kernel
theorem dL_law_37 : decode cL_law 37 = .ok (.invokestatic 224, 3) := by decide +kernel
theorem dL_law_40 : decode cL_law 40 = .ok (.ifCond .eq 7, 3) := by decide +kernel
theorem dL_law_43 : decode cL_law 43 = .ok (.iconst 1, 1) := by decide +kernel
theorem dL_law_44 : decode cL_law 44 = .ok (.goto 4, 3) := by decide +kernel
theorem dL_law_47 : decode cL_law 47 = .ok (.iconst 0, 1) := by decide +kernel
theorem dL_law_48 : decode cL_law 48 = .ok (.istore_n 3, 1) := by decide +kernel
theorem dL_law_49 : decode cL_law 49 = .ok (.iconst 0, 1) := by decide +kernel
theorem dL_law_50 : decode cL_law 50 = .ok (.istore 4, 2) := by decide +kernel
theorem dL_law_52 : decode cL_law 52 = .ok (.iload 4, 2) := by decide +kernel
theorem dL_law_54 : decode cL_law 54 = .ok (.bipush 72, 2) := by decide +kernel
theorem dL_law_56 : decode cL_law 56 = .ok (.if_icmp .ge 221, 3) := by decide +kernel
theorem dL_law_59 : decode cL_law 59 = .ok (.iload_n 3, 1) := by decide +kernel
theorem dL_law_60 : decode cL_law 60 = .ok (.ifCond .eq 217, 3) := by decide +kernel
theorem dL_law_63 : decode cL_law 63 = .ok (.aload_n 0, 1) := by decide +kernel
theorem dL_law_64 : decode cL_law 64 = .ok (.iconst 2, 1) := by decide +kernel
theorem dL_law_65 : decode cL_law 65 = .ok (.iload 4, 2) := by decide +kernel
theorem dL_law_67 : decode cL_law 67 = .ok (.imul, 1) := by decide +kernel
theorem dL_law_68 : decode cL_law 68 = .ok (.invokestatic 212, 3) := by decide +kernel
theorem dL_law_71 : decode cL_law 71 = .ok (.istore 5, 2) := by decide +kernel
theorem dL_law_73 : decode cL_law 73 = .ok (.aload_n 0, 1) := by decide +kernel
theorem dL_law_74 : decode cL_law 74 = .ok (.iconst 2, 1) := by decide +kernel
theorem dL_law_75 : decode cL_law 75 = .ok (.iload 4, 2) := by decide +kernel
theorem dL_law_77 : decode cL_law 77 = .ok (.imul, 1) := by decide +kernel
theorem dL_law_78 : decode cL_law 78 = .ok (.iconst 1, 1) := by decide +kernel
theorem dL_law_79 : decode cL_law 79 = .ok (.iadd, 1) := by decide +kernel
theorem dL_law_80 : decode cL_law 80 = .ok (.invokestatic 212, 3) := by decide +kernel
theorem dL_law_83 : decode cL_law 83 = .ok (.istore 6, 2) := by decide +kernel
theorem dL_law_85 : decode cL_law 85 = .ok (.iload 4, 2) := by decide +kernel
theorem dL_law_87 : decode cL_law 87 = .ok (.bipush 36, 2) := by decide +kernel
theorem dL_law_89 : decode cL_law 89 = .ok (.irem, 1) := by decide +kernel
theorem dL_law_90 : decode cL_law 90 = .ok (.ifCond .ne 46, 3) := by decide +kernel
theorem dL_law_93 : decode cL_law 93 = .ok (.aload_n 1, 1) := by decide +kernel
theorem dL_law_94 : decode cL_law 94 = .ok (.iload 5, 2) := by decide +kernel
theorem dL_law_96 : decode cL_law 96 = .ok (.iload 6, 2) := by decide +kernel
theorem dL_law_98 : decode cL_law 98 = .ok (.invokestatic 227, 3) := by decide +kernel
theorem dL_law_101 : decode cL_law 101 = .ok (.ifCond .eq 30, 3) := by decide +kernel
theorem dL_law_104 : decode cL_law 104 = .ok (.aload_n 2, 1) := by decide +kernel
theorem dL_law_105 : decode cL_law 105 = .ok (.iload 5, 2) := by decide +kernel
theorem dL_law_107 : decode cL_law 107 = .ok (.iload 6, 2) := by decide +kernel
theorem dL_law_109 : decode cL_law 109 = .ok (.invokestatic 227, 3) := by decide +kernel
theorem dL_law_112 : decode cL_law 112 = .ok (.ifCond .eq 19, 3) := by decide +kernel
theorem dL_law_115 : decode cL_law 115 = .ok (.aload_n 1, 1) := by decide +kernel
theorem dL_law_116 : decode cL_law 116 = .ok (.invokestatic 231, 3) := by decide +kernel
theorem dL_law_119 : decode cL_law 119 = .ok (.aload_n 2, 1) := by decide +kernel
theorem dL_law_120 : decode cL_law 120 = .ok (.invokestatic 231, 3) := by decide +kernel
theorem dL_law_123 : decode cL_law 123 = .ok (.lcmp, 1) := by decide +kernel
theorem dL_law_124 : decode cL_law 124 = .ok (.ifCond .ne 7, 3) := by decide +kernel
theorem dL_law_127 : decode cL_law 127 = .ok (.iconst 1, 1) := by decide +kernel
theorem dL_law_128 : decode cL_law 128 = .ok (.goto 4, 3) := by decide +kernel
theorem dL_law_131 : decode cL_law 131 = .ok (.iconst 0, 1) := by decide +kernel
theorem dL_law_132 : decode cL_law 132 = .ok (.istore_n 3, 1) := by decide +kernel
theorem dL_law_133 : decode cL_law 133 = .ok (.goto 138, 3) := by decide +kernel
theorem dL_law_136 : decode cL_law 136 = .ok (.aload_n 1, 1) := by decide +kernel
theorem dL_law_137 : decode cL_law 137 = .ok (.iload 5, 2) := by decide +kernel
theorem dL_law_139 : decode cL_law 139 = .ok (.iload 6, 2) := by decide +kernel
theorem dL_law_141 : decode cL_law 141 = .ok (.invokestatic 233, 3) := by decide +kernel
theorem dL_law_144 : decode cL_law 144 = .ok (.aload_n 2, 1) := by decide +kernel
theorem dL_law_145 : decode cL_law 145 = .ok (.iload 5, 2) := by decide +kernel
theorem dL_law_147 : decode cL_law 147 = .ok (.iload 6, 2) := by decide +kernel
theorem dL_law_149 : decode cL_law 149 = .ok (.invokestatic 233, 3) := by decide +kernel
theorem dL_law_152 : decode cL_law 152 = .ok (.lcmp, 1) := by decide +kernel
theorem dL_law_153 : decode cL_law 153 = .ok (.ifCond .ne 7, 3) := by decide +kernel
theorem dL_law_156 : decode cL_law 156 = .ok (.iconst 1, 1) := by decide +kernel
theorem dL_law_157 : decode cL_law 157 = .ok (.goto 4, 3) := by decide +kernel
theorem dL_law_160 : decode cL_law 160 = .ok (.iconst 0, 1) := by decide +kernel
theorem dL_law_161 : decode cL_law 161 = .ok (.istore_n 3, 1) := by decide +kernel
theorem dL_law_162 : decode cL_law 162 = .ok (.iload 4, 2) := by decide +kernel
theorem dL_law_164 : decode cL_law 164 = .ok (.bipush 6, 2) := by decide +kernel
theorem dL_law_166 : decode cL_law 166 = .ok (.irem, 1) := by decide +kernel
theorem dL_law_167 : decode cL_law 167 = .ok (.ifCond .ne 27, 3) := by decide +kernel
theorem dL_law_170 : decode cL_law 170 = .ok (.iload_n 3, 1) := by decide +kernel
theorem dL_law_171 : decode cL_law 171 = .ok (.ifCond .eq 21, 3) := by decide +kernel
theorem dL_law_174 : decode cL_law 174 = .ok (.aload_n 2, 1) := by decide +kernel
theorem dL_law_175 : decode cL_law 175 = .ok (.invokestatic 220, 3) := by decide +kernel
theorem dL_law_178 : decode cL_law 178 = .ok (.ifCond .eq 14, 3) := by decide +kernel
theorem dL_law_181 : decode cL_law 181 = .ok (.aload_n 2, 1) := by decide +kernel
theorem dL_law_182 : decode cL_law 182 = .ok (.invokestatic 224, 3) := by decide +kernel
theorem dL_law_185 : decode cL_law 185 = .ok (.ifCond .eq 7, 3) := by decide +kernel
theorem dL_law_188 : decode cL_law 188 = .ok (.iconst 1, 1) := by decide +kernel
theorem dL_law_189 : decode cL_law 189 = .ok (.goto 4, 3) := by decide +kernel
theorem dL_law_192 : decode cL_law 192 = .ok (.iconst 0, 1) := by decide +kernel
theorem dL_law_193 : decode cL_law 193 = .ok (.istore_n 3, 1) := by decide +kernel
theorem dL_law_194 : decode cL_law 194 = .ok (.iload 4, 2) := by decide +kernel
theorem dL_law_196 : decode cL_law 196 = .ok (.bipush 12, 2) := by decide +kernel
theorem dL_law_198 : decode cL_law 198 = .ok (.irem, 1) := by decide +kernel
theorem dL_law_199 : decode cL_law 199 = .ok (.bipush 11, 2) := by decide +kernel
theorem dL_law_201 : decode cL_law 201 = .ok (.if_icmp .ne 42, 3) := by decide +kernel
theorem dL_law_204 : decode cL_law 204 = .ok (.iload_n 3, 1) := by decide +kernel
theorem dL_law_205 : decode cL_law 205 = .ok (.ifCond .eq 36, 3) := by decide +kernel
theorem dL_law_208 : decode cL_law 208 = .ok (.aload_n 2, 1) := by decide +kernel
theorem dL_law_209 : decode cL_law 209 = .ok (.iload 6, 2) := by decide +kernel
theorem dL_law_211 : decode cL_law 211 = .ok (.invokestatic 236, 3) := by decide +kernel
theorem dL_law_214 : decode cL_law 214 = .ok (.ifCond .eq 27, 3) := by decide +kernel
theorem dL_law_217 : decode cL_law 217 = .ok (.aload_n 1, 1) := by decide +kernel
theorem dL_law_218 : decode cL_law 218 = .ok (.iconst 1, 1) := by decide +kernel
theorem dL_law_219 : decode cL_law 219 = .ok (.invokestatic 160, 3) := by decide +kernel
theorem dL_law_222 : decode cL_law 222 = .ok (.lconst 0, 1) := by decide +kernel
theorem dL_law_223 : decode cL_law 223 = .ok (.lcmp, 1) := by decide +kernel
theorem dL_law_224 : decode cL_law 224 = .ok (.ifCond .lt 17, 3) := by decide +kernel
theorem dL_law_227 : decode cL_law 227 = .ok (.aload_n 1, 1) := by decide +kernel
theorem dL_law_228 : decode cL_law 228 = .ok (.iconst 1, 1) := by decide +kernel
theorem dL_law_229 : decode cL_law 229 = .ok (.invokestatic 162, 3) := by decide +kernel
theorem dL_law_232 : decode cL_law 232 = .ok (.lconst 0, 1) := by decide +kernel
theorem dL_law_233 : decode cL_law 233 = .ok (.lcmp, 1) := by decide +kernel
theorem dL_law_234 : decode cL_law 234 = .ok (.ifCond .lt 7, 3) := by decide +kernel
theorem dL_law_237 : decode cL_law 237 = .ok (.iconst 1, 1) := by decide +kernel
theorem dL_law_238 : decode cL_law 238 = .ok (.goto 4, 3) := by decide +kernel
theorem dL_law_241 : decode cL_law 241 = .ok (.iconst 0, 1) := by decide +kernel
theorem dL_law_242 : decode cL_law 242 = .ok (.istore_n 3, 1) := by decide +kernel
theorem dL_law_243 : decode cL_law 243 = .ok (.iload_n 3, 1) := by decide +kernel
theorem dL_law_244 : decode cL_law 244 = .ok (.ifCond .eq 25, 3) := by decide +kernel
theorem dL_law_247 : decode cL_law 247 = .ok (.iload 4, 2) := by decide +kernel
theorem dL_law_249 : decode cL_law 249 = .ok (.bipush 6, 2) := by decide +kernel
theorem dL_law_251 : decode cL_law 251 = .ok (.irem, 1) := by decide +kernel
theorem dL_law_252 : decode cL_law 252 = .ok (.ifCond .gt 13, 3) := by decide +kernel
theorem dL_law_255 : decode cL_law 255 = .ok (.aload_n 1, 1) := by decide +kernel
theorem dL_law_256 : decode cL_law 256 = .ok (.aload_n 2, 1) := by decide +kernel
theorem dL_law_257 : decode cL_law 257 = .ok (.iload 6, 2) := by decide +kernel
theorem dL_law_259 : decode cL_law 259 = .ok (.invokestatic 216, 3) := by decide +kernel
theorem dL_law_262 : decode cL_law 262 = .ok (.ifCond .eq 7, 3) := by decide +kernel
theorem dL_law_265 : decode cL_law 265 = .ok (.iconst 1, 1) := by decide +kernel
theorem dL_law_266 : decode cL_law 266 = .ok (.goto 4, 3) := by decide +kernel
theorem dL_law_269 : decode cL_law 269 = .ok (.iconst 0, 1) := by decide +kernel
theorem dL_law_270 : decode cL_law 270 = .ok (.istore_n 3, 1) := by decide +kernel
theorem dL_law_271 : decode cL_law 271 = .ok (.iinc 4 1, 3) := by decide +kernel
theorem dL_law_274 : decode cL_law 274 = .ok (.goto (-222), 3) := by decide +kernel
theorem dL_law_277 : decode cL_law 277 = .ok (.iload_n 3, 1) := by decide +kernel
theorem dL_law_278 : decode cL_law 278 = .ok (.ifCond .eq 17, 3) := by decide +kernel
theorem dL_law_281 : decode cL_law 281 = .ok (.aload_n 1, 1) := by decide +kernel
theorem dL_law_282 : decode cL_law 282 = .ok (.aload_n 2, 1) := by decide +kernel
theorem dL_law_283 : decode cL_law 283 = .ok (.ldc 239, 2) := by decide +kernel
theorem dL_law_285 : decode cL_law 285 = .ok (.invokestatic 216, 3) := by decide +kernel
theorem dL_law_288 : decode cL_law 288 = .ok (.ifCond .eq 7, 3) := by decide +kernel
theorem dL_law_291 : decode cL_law 291 = .ok (.iconst 1, 1) := by decide +kernel
theorem dL_law_292 : decode cL_law 292 = .ok (.goto 4, 3) := by decide +kernel
theorem dL_law_295 : decode cL_law 295 = .ok (.iconst 0, 1) := by decide +kernel
theorem dL_law_296 : decode cL_law 296 = .ok (.ireturn, 1) := by decide +kernel
