theorem dL_at_0 : decode cL_at 0 = .ok (.iload_n 1, 1) := by decide +kernel
theorem dL_at_1 : decode cL_at 1 = .ok (.aload_n 0, 1) := by decide +kernel
theorem dL_at_2 : decode cL_at 2 = .ok (.arraylength, 1) := by decide +kernel
theorem dL_at_3 : decode cL_at 3 = .ok (.if_icmp .ge 9, 3) := by decide +kernel
theorem dL_at_6 : decode cL_at 6 = .ok (.aload_n 0, 1) := by decide +kernel
theorem dL_at_7 : decode cL_at 7 = .ok (.iload_n 1, 1) := by decide +kernel
theorem dL_at_8 : decode cL_at 8 = .ok (.iaload, 1) := by decide +kernel
theorem dL_at_9 : decode cL_at 9 = .ok (.goto 4, 3) := by decide +kernel
theorem dL_at_12 : decode cL_at 12 = .ok (.iconst 0, 1) := by decide +kernel
theorem dL_at_13 : decode cL_at 13 = .ok (.ireturn, 1) := by decide +kernel
theorem dL_some_0 : decode cL_some 0 = .ok (.iload_n 0, 1) := by decide +kernel
theorem dL_some_1 : decode cL_some 1 = .ok (.iload_n 1, 1) := by decide +kernel
theorem dL_some_2 : decode cL_some 2 = .ok (.irem, 1) := by decide +kernel
theorem dL_some_3 : decode cL_some 3 = .ok (.istore_n 2, 1) := by decide +kernel
theorem dL_some_4 : decode cL_some 4 = .ok (.iload_n 2, 1) := by decide +kernel
theorem dL_some_5 : decode cL_some 5 = .ok (.ifCond .ge 9, 3) := by decide +kernel
theorem dL_some_8 : decode cL_some 8 = .ok (.iload_n 2, 1) := by decide +kernel
theorem dL_some_9 : decode cL_some 9 = .ok (.iload_n 1, 1) := by decide +kernel
theorem dL_some_10 : decode cL_some 10 = .ok (.iadd, 1) := by decide +kernel
theorem dL_some_11 : decode cL_some 11 = .ok (.goto 4, 3) := by decide +kernel
theorem dL_some_14 : decode cL_some 14 = .ok (.iload_n 2, 1) := by decide +kernel
theorem dL_some_15 : decode cL_some 15 = .ok (.ireturn, 1) := by decide +kernel
theorem dL_tour_0 : decode cL_tour 0 = .ok (.aload_n 0, 1) := by decide +kernel
theorem dL_tour_1 : decode cL_tour 1 = .ok (.iload_n 1, 1) := by decide +kernel
theorem dL_tour_2 : decode cL_tour 2 = .ok (.invokevirtual 7, 3) := by decide +kernel
theorem dL_tour_5 : decode cL_tour 5 = .ok (.ireturn, 1) := by decide +kernel
theorem dL_tour_6 : decode cL_tour 6 = .ok (.astore_n 2, 1) := by decide +kernel
theorem dL_tour_7 : decode cL_tour 7 = .ok (.sipush (-1001), 3) := by decide +kernel
theorem dL_tour_10 : decode cL_tour 10 = .ok (.ireturn, 1) := by decide +kernel
theorem dL_tour_11 : decode cL_tour 11 = .ok (.astore_n 2, 1) := by decide +kernel
theorem dL_tour_12 : decode cL_tour 12 = .ok (.sipush (-1002), 3) := by decide +kernel
theorem dL_tour_15 : decode cL_tour 15 = .ok (.ireturn, 1) := by decide +kernel
theorem dL_step_0 : decode cL_step 0 = .ok (.aload_n 0, 1) := by decide +kernel
theorem dL_step_1 : decode cL_step 1 = .ok (.iload_n 1, 1) := by decide +kernel
theorem dL_step_2 : decode cL_step 2 = .ok (.iload_n 2, 1) := by decide +kernel
theorem dL_step_3 : decode cL_step 3 = .ok (.iload_n 3, 1) := by decide +kernel
theorem dL_step_4 : decode cL_step 4 = .ok (.iload 4, 2) := by decide +kernel
theorem dL_step_6 : decode cL_step 6 = .ok (.iload 5, 2) := by decide +kernel
theorem dL_step_8 : decode cL_step 8 = .ok (.invokevirtual 17, 3) := by decide +kernel
theorem dL_step_11 : decode cL_step 11 = .ok (.ireturn, 1) := by decide +kernel
theorem dL_step_12 : decode cL_step 12 = .ok (.astore 6, 2) := by decide +kernel
theorem dL_step_14 : decode cL_step 14 = .ok (.sipush (-1001), 3) := by decide +kernel
theorem dL_step_17 : decode cL_step 17 = .ok (.ireturn, 1) := by decide +kernel
theorem dL_step_18 : decode cL_step 18 = .ok (.astore 6, 2) := by decide +kernel
theorem dL_step_20 : decode cL_step 20 = .ok (.sipush (-1002), 3) := by decide +kernel
theorem dL_step_23 : decode cL_step 23 = .ok (.ireturn, 1) := by decide +kernel
theorem dL_step_24 : decode cL_step 24 = .ok (.astore 6, 2) := by decide +kernel
theorem dL_step_26 : decode cL_step 26 = .ok (.sipush (-1003), 3) := by decide +kernel
theorem dL_step_29 : decode cL_step 29 = .ok (.ireturn, 1) := by decide +kernel
theorem dL_start_0 : decode cL_start 0 = .ok (.aload_n 0, 1) := by decide +kernel
theorem dL_start_1 : decode cL_start 1 = .ok (.iload_n 1, 1) := by decide +kernel
theorem dL_start_2 : decode cL_start 2 = .ok (.invokevirtual 23, 3) := by decide +kernel
theorem dL_start_5 : decode cL_start 5 = .ok (.ireturn, 1) := by decide +kernel
theorem dL_start_6 : decode cL_start 6 = .ok (.astore_n 2, 1) := by decide +kernel
theorem dL_start_7 : decode cL_start 7 = .ok (.sipush (-1001), 3) := by decide +kernel
theorem dL_start_10 : decode cL_start 10 = .ok (.ireturn, 1) := by decide +kernel
theorem dL_start_11 : decode cL_start 11 = .ok (.astore_n 2, 1) := by decide +kernel
theorem dL_start_12 : decode cL_start 12 = .ok (.sipush (-1002), 3) := by decide +kernel
theorem dL_start_15 : decode cL_start 15 = .ok (.ireturn, 1) := by decide +kernel
theorem dL_back_0 : decode cL_back 0 = .ok (.aload_n 0, 1) := by decide +kernel
theorem dL_back_1 : decode cL_back 1 = .ok (.iload_n 1, 1) := by decide +kernel
theorem dL_back_2 : decode cL_back 2 = .ok (.invokevirtual 26, 3) := by decide +kernel
theorem dL_back_5 : decode cL_back 5 = .ok (.ireturn, 1) := by decide +kernel
theorem dL_back_6 : decode cL_back 6 = .ok (.astore_n 2, 1) := by decide +kernel
theorem dL_back_7 : decode cL_back 7 = .ok (.sipush (-1001), 3) := by decide +kernel
theorem dL_back_10 : decode cL_back 10 = .ok (.ireturn, 1) := by decide +kernel
theorem dL_back_11 : decode cL_back 11 = .ok (.astore_n 2, 1) := by decide +kernel
theorem dL_back_12 : decode cL_back 12 = .ok (.sipush (-1002), 3) := by decide +kernel
theorem dL_back_15 : decode cL_back 15 = .ok (.ireturn, 1) := by decide +kernel
theorem dL_tourOf_0 : decode cL_tourOf 0 = .ok (.aload_n 0, 1) := by decide +kernel
theorem dL_tourOf_1 : decode cL_tourOf 1 = .ok (.iload_n 1, 1) := by decide +kernel
theorem dL_tourOf_2 : decode cL_tourOf 2 = .ok (.iload_n 2, 1) := by decide +kernel
theorem dL_tourOf_3 : decode cL_tourOf 3 = .ok (.invokevirtual 29, 3) := by decide +kernel
theorem dL_tourOf_6 : decode cL_tourOf 6 = .ok (.ireturn, 1) := by decide +kernel
theorem dL_tourOf_7 : decode cL_tourOf 7 = .ok (.astore_n 3, 1) := by decide +kernel
theorem dL_tourOf_8 : decode cL_tourOf 8 = .ok (.sipush (-1001), 3) := by decide +kernel
theorem dL_tourOf_11 : decode cL_tourOf 11 = .ok (.ireturn, 1) := by decide +kernel
theorem dL_tourOf_12 : decode cL_tourOf 12 = .ok (.astore_n 3, 1) := by decide +kernel
theorem dL_tourOf_13 : decode cL_tourOf 13 = .ok (.sipush (-1002), 3) := by decide +kernel
theorem dL_tourOf_16 : decode cL_tourOf 16 = .ok (.ireturn, 1) := by decide +kernel
theorem dL_stepOf_0 : decode cL_stepOf 0 = .ok (.aload_n 0, 1) := by decide +kernel
theorem dL_stepOf_1 : decode cL_stepOf 1 = .ok (.iload_n 1, 1) := by decide +kernel
theorem dL_stepOf_2 : decode cL_stepOf 2 = .ok (.iload_n 2, 1) := by decide +kernel
theorem dL_stepOf_3 : decode cL_stepOf 3 = .ok (.iload_n 3, 1) := by decide +kernel
theorem dL_stepOf_4 : decode cL_stepOf 4 = .ok (.invokevirtual 33, 3) := by decide +kernel
theorem dL_stepOf_7 : decode cL_stepOf 7 = .ok (.ireturn, 1) := by decide +kernel
theorem dL_stepOf_8 : decode cL_stepOf 8 = .ok (.astore 4, 2) := by decide +kernel
theorem dL_stepOf_10 : decode cL_stepOf 10 = .ok (.sipush (-1001), 3) := by decide +kernel
theorem dL_stepOf_13 : decode cL_stepOf 13 = .ok (.ireturn, 1) := by decide +kernel
theorem dL_stepOf_14 : decode cL_stepOf 14 = .ok (.astore 4, 2) := by decide +kernel
theorem dL_stepOf_16 : decode cL_stepOf 16 = .ok (.sipush (-1002), 3) := by decide +kernel
theorem dL_stepOf_19 : decode cL_stepOf 19 = .ok (.ireturn, 1) := by decide +kernel
theorem dL_shut_0 : decode cL_shut 0 = .ok (.aload_n 0, 1) := by decide +kernel
theorem dL_shut_1 : decode cL_shut 1 = .ok (.iload_n 1, 1) := by decide +kernel
theorem dL_shut_2 : decode cL_shut 2 = .ok (.iload_n 2, 1) := by decide +kernel
theorem dL_shut_3 : decode cL_shut 3 = .ok (.invokevirtual 37, 3) := by decide +kernel
theorem dL_shut_6 : decode cL_shut 6 = .ok (.ireturn, 1) := by decide +kernel
theorem dL_shut_7 : decode cL_shut 7 = .ok (.astore_n 3, 1) := by decide +kernel
theorem dL_shut_8 : decode cL_shut 8 = .ok (.sipush (-1001), 3) := by decide +kernel
theorem dL_shut_11 : decode cL_shut 11 = .ok (.ireturn, 1) := by decide +kernel
theorem dL_shut_12 : decode cL_shut 12 = .ok (.astore_n 3, 1) := by decide +kernel
theorem dL_shut_13 : decode cL_shut 13 = .ok (.sipush (-1002), 3) := by decide +kernel
theorem dL_shut_16 : decode cL_shut 16 = .ok (.ireturn, 1) := by decide +kernel
theorem dL_dear_0 : decode cL_dear 0 = .ok (.aload_n 0, 1) := by decide +kernel
theorem dL_dear_1 : decode cL_dear 1 = .ok (.iload_n 1, 1) := by decide +kernel
theorem dL_dear_2 : decode cL_dear 2 = .ok (.iload_n 2, 1) := by decide +kernel
theorem dL_dear_3 : decode cL_dear 3 = .ok (.invokevirtual 41, 3) := by decide +kernel
theorem dL_dear_6 : decode cL_dear 6 = .ok (.ireturn, 1) := by decide +kernel
theorem dL_dear_7 : decode cL_dear 7 = .ok (.astore_n 3, 1) := by decide +kernel
theorem dL_dear_8 : decode cL_dear 8 = .ok (.sipush (-1001), 3) := by decide +kernel
theorem dL_dear_11 : decode cL_dear 11 = .ok (.ireturn, 1) := by decide +kernel
theorem dL_dear_12 : decode cL_dear 12 = .ok (.astore_n 3, 1) := by decide +kernel
theorem dL_dear_13 : decode cL_dear 13 = .ok (.sipush (-1002), 3) := by decide +kernel
theorem dL_dear_16 : decode cL_dear 16 = .ok (.ireturn, 1) := by decide +kernel
theorem dL_townOf_0 : decode cL_townOf 0 = .ok (.aload_n 0, 1) := by decide +kernel
theorem dL_townOf_1 : decode cL_townOf 1 = .ok (.iload_n 1, 1) := by decide +kernel
theorem dL_townOf_2 : decode cL_townOf 2 = .ok (.iload_n 2, 1) := by decide +kernel
theorem dL_townOf_3 : decode cL_townOf 3 = .ok (.invokevirtual 44, 3) := by decide +kernel
theorem dL_townOf_6 : decode cL_townOf 6 = .ok (.ireturn, 1) := by decide +kernel
theorem dL_townOf_7 : decode cL_townOf 7 = .ok (.astore_n 3, 1) := by decide +kernel
theorem dL_townOf_8 : decode cL_townOf 8 = .ok (.sipush (-1001), 3) := by decide +kernel
theorem dL_townOf_11 : decode cL_townOf 11 = .ok (.ireturn, 1) := by decide +kernel
theorem dL_townOf_12 : decode cL_townOf 12 = .ok (.astore_n 3, 1) := by decide +kernel
theorem dL_townOf_13 : decode cL_townOf 13 = .ok (.sipush (-1002), 3) := by decide +kernel
theorem dL_townOf_16 : decode cL_townOf 16 = .ok (.ireturn, 1) := by decide +kernel
theorem dL_pass_0 : decode cL_pass 0 = .ok (.aload_n 0, 1) := by decide +kernel
theorem dL_pass_1 : decode cL_pass 1 = .ok (.iload_n 1, 1) := by decide +kernel
theorem dL_pass_2 : decode cL_pass 2 = .ok (.invokevirtual 47, 3) := by decide +kernel
theorem dL_pass_5 : decode cL_pass 5 = .ok (.ireturn, 1) := by decide +kernel
theorem dL_pass_6 : decode cL_pass 6 = .ok (.astore_n 2, 1) := by decide +kernel
theorem dL_pass_7 : decode cL_pass 7 = .ok (.sipush (-1001), 3) := by decide +kernel
theorem dL_pass_10 : decode cL_pass 10 = .ok (.ireturn, 1) := by decide +kernel
theorem dL_left_0 : decode cL_left 0 = .ok (.aload_n 0, 1) := by decide +kernel
theorem dL_left_1 : decode cL_left 1 = .ok (.iload_n 1, 1) := by decide +kernel
theorem dL_left_2 : decode cL_left 2 = .ok (.iload_n 2, 1) := by decide +kernel
theorem dL_left_3 : decode cL_left 3 = .ok (.iload_n 3, 1) := by decide +kernel
theorem dL_left_4 : decode cL_left 4 = .ok (.invokevirtual 50, 3) := by decide +kernel
theorem dL_left_7 : decode cL_left 7 = .ok (.ireturn, 1) := by decide +kernel
theorem dL_left_8 : decode cL_left 8 = .ok (.astore 4, 2) := by decide +kernel
theorem dL_left_10 : decode cL_left 10 = .ok (.sipush (-1001), 3) := by decide +kernel
theorem dL_left_13 : decode cL_left 13 = .ok (.ireturn, 1) := by decide +kernel
theorem dL_leftAgain_0 : decode cL_leftAgain 0 = .ok (.aload_n 0, 1) := by decide +kernel
theorem dL_leftAgain_1 : decode cL_leftAgain 1 = .ok (.iload_n 1, 1) := by decide +kernel
theorem dL_leftAgain_2 : decode cL_leftAgain 2 = .ok (.iload_n 2, 1) := by decide +kernel
theorem dL_leftAgain_3 : decode cL_leftAgain 3 = .ok (.iload_n 3, 1) := by decide +kernel
theorem dL_leftAgain_4 : decode cL_leftAgain 4 = .ok (.invokevirtual 53, 3) := by decide +kernel
theorem dL_leftAgain_7 : decode cL_leftAgain 7 = .ok (.ireturn, 1) := by decide +kernel
theorem dL_leftAgain_8 : decode cL_leftAgain 8 = .ok (.astore 4, 2) := by decide +kernel
theorem dL_leftAgain_10 : decode cL_leftAgain 10 = .ok (.sipush (-1001), 3) := by decide +kernel
theorem dL_leftAgain_13 : decode cL_leftAgain 13 = .ok (.ireturn, 1) := by decide +kernel
theorem dL_faultOf_0 : decode cL_faultOf 0 = .ok (.aload_n 0, 1) := by decide +kernel
theorem dL_faultOf_1 : decode cL_faultOf 1 = .ok (.iload_n 1, 1) := by decide +kernel
theorem dL_faultOf_2 : decode cL_faultOf 2 = .ok (.invokevirtual 56, 3) := by decide +kernel
theorem dL_faultOf_5 : decode cL_faultOf 5 = .ok (.ireturn, 1) := by decide +kernel
theorem dL_faultOf_6 : decode cL_faultOf 6 = .ok (.astore_n 2, 1) := by decide +kernel
theorem dL_faultOf_7 : decode cL_faultOf 7 = .ok (.sipush (-1001), 3) := by decide +kernel
theorem dL_faultOf_10 : decode cL_faultOf 10 = .ok (.ireturn, 1) := by decide +kernel
theorem dL_faultOf_11 : decode cL_faultOf 11 = .ok (.astore_n 2, 1) := by decide +kernel
theorem dL_faultOf_12 : decode cL_faultOf 12 = .ok (.sipush (-1002), 3) := by decide +kernel
theorem dL_faultOf_15 : decode cL_faultOf 15 = .ok (.ireturn, 1) := by decide +kernel
theorem dL_endsIn_0 : decode cL_endsIn 0 = .ok (.aload_n 0, 1) := by decide +kernel
theorem dL_endsIn_1 : decode cL_endsIn 1 = .ok (.iload_n 1, 1) := by decide +kernel
theorem dL_endsIn_2 : decode cL_endsIn 2 = .ok (.invokevirtual 61, 3) := by decide +kernel
theorem dL_endsIn_5 : decode cL_endsIn 5 = .ok (.ireturn, 1) := by decide +kernel
theorem dL_endsIn_6 : decode cL_endsIn 6 = .ok (.astore_n 2, 1) := by decide +kernel
theorem dL_endsIn_7 : decode cL_endsIn 7 = .ok (.sipush (-1001), 3) := by decide +kernel
theorem dL_endsIn_10 : decode cL_endsIn 10 = .ok (.ireturn, 1) := by decide +kernel
theorem dL_endsIn_11 : decode cL_endsIn 11 = .ok (.astore_n 2, 1) := by decide +kernel
theorem dL_endsIn_12 : decode cL_endsIn 12 = .ok (.sipush (-1002), 3) := by decide +kernel
theorem dL_endsIn_15 : decode cL_endsIn 15 = .ok (.ireturn, 1) := by decide +kernel
theorem dL_costs_0 : decode cL_costs 0 = .ok (.aload_n 0, 1) := by decide +kernel
theorem dL_costs_1 : decode cL_costs 1 = .ok (.iload_n 1, 1) := by decide +kernel
theorem dL_costs_2 : decode cL_costs 2 = .ok (.invokevirtual 64, 3) := by decide +kernel
theorem dL_costs_5 : decode cL_costs 5 = .ok (.ireturn, 1) := by decide +kernel
theorem dL_costs_6 : decode cL_costs 6 = .ok (.astore_n 2, 1) := by decide +kernel
theorem dL_costs_7 : decode cL_costs 7 = .ok (.sipush (-1001), 3) := by decide +kernel
theorem dL_costs_10 : decode cL_costs 10 = .ok (.ireturn, 1) := by decide +kernel
theorem dL_cheapest_0 : decode cL_cheapest 0 = .ok (.aload_n 0, 1) := by decide +kernel
theorem dL_cheapest_1 : decode cL_cheapest 1 = .ok (.iload_n 1, 1) := by decide +kernel
theorem dL_cheapest_2 : decode cL_cheapest 2 = .ok (.iload_n 2, 1) := by decide +kernel
theorem dL_cheapest_3 : decode cL_cheapest 3 = .ok (.iload_n 3, 1) := by decide +kernel
theorem dL_cheapest_4 : decode cL_cheapest 4 = .ok (.invokevirtual 67, 3) := by decide +kernel
theorem dL_cheapest_7 : decode cL_cheapest 7 = .ok (.ireturn, 1) := by decide +kernel
theorem dL_cheapest_8 : decode cL_cheapest 8 = .ok (.astore 4, 2) := by decide +kernel
theorem dL_cheapest_10 : decode cL_cheapest 10 = .ok (.sipush (-1001), 3) := by decide +kernel
theorem dL_cheapest_13 : decode cL_cheapest 13 = .ok (.ireturn, 1) := by decide +kernel
theorem dL_cheapest_14 : decode cL_cheapest 14 = .ok (.astore 4, 2) := by decide +kernel
theorem dL_cheapest_16 : decode cL_cheapest 16 = .ok (.sipush (-1002), 3) := by decide +kernel
theorem dL_cheapest_19 : decode cL_cheapest 19 = .ok (.ireturn, 1) := by decide +kernel
theorem dL_cheapest_20 : decode cL_cheapest 20 = .ok (.astore 4, 2) := by decide +kernel
theorem dL_cheapest_22 : decode cL_cheapest 22 = .ok (.sipush (-1003), 3) := by decide +kernel
theorem dL_cheapest_25 : decode cL_cheapest 25 = .ok (.ireturn, 1) := by decide +kernel
theorem dL_ranked_0 : decode cL_ranked 0 = .ok (.aload_n 0, 1) := by decide +kernel
theorem dL_ranked_1 : decode cL_ranked 1 = .ok (.iload_n 1, 1) := by decide +kernel
theorem dL_ranked_2 : decode cL_ranked 2 = .ok (.invokevirtual 70, 3) := by decide +kernel
theorem dL_ranked_5 : decode cL_ranked 5 = .ok (.ireturn, 1) := by decide +kernel
theorem dL_ranked_6 : decode cL_ranked 6 = .ok (.astore_n 2, 1) := by decide +kernel
theorem dL_ranked_7 : decode cL_ranked 7 = .ok (.sipush (-1001), 3) := by decide +kernel
theorem dL_ranked_10 : decode cL_ranked 10 = .ok (.ireturn, 1) := by decide +kernel
theorem dL_line_0 : decode cL_line 0 = .ok (.aload_n 0, 1) := by decide +kernel
theorem dL_line_1 : decode cL_line 1 = .ok (.iload_n 1, 1) := by decide +kernel
theorem dL_line_2 : decode cL_line 2 = .ok (.invokevirtual 73, 3) := by decide +kernel
theorem dL_line_5 : decode cL_line 5 = .ok (.ireturn, 1) := by decide +kernel
theorem dL_line_6 : decode cL_line 6 = .ok (.astore_n 2, 1) := by decide +kernel
theorem dL_line_7 : decode cL_line 7 = .ok (.sipush (-1001), 3) := by decide +kernel
theorem dL_line_10 : decode cL_line 10 = .ok (.ireturn, 1) := by decide +kernel
theorem dL_character_0 : decode cL_character 0 = .ok (.aload_n 0, 1) := by decide +kernel
theorem dL_character_1 : decode cL_character 1 = .ok (.iload_n 1, 1) := by decide +kernel
theorem dL_character_2 : decode cL_character 2 = .ok (.invokevirtual 76, 3) := by decide +kernel
theorem dL_character_5 : decode cL_character 5 = .ok (.ireturn, 1) := by decide +kernel
theorem dL_character_6 : decode cL_character 6 = .ok (.astore_n 2, 1) := by decide +kernel
theorem dL_character_7 : decode cL_character 7 = .ok (.sipush (-1001), 3) := by decide +kernel
theorem dL_character_10 : decode cL_character 10 = .ok (.ireturn, 1) := by decide +kernel
theorem dL_number_0 : decode cL_number 0 = .ok (.aload_n 0, 1) := by decide +kernel
theorem dL_number_1 : decode cL_number 1 = .ok (.iload_n 1, 1) := by decide +kernel
theorem dL_number_2 : decode cL_number 2 = .ok (.invokevirtual 80, 3) := by decide +kernel
theorem dL_number_5 : decode cL_number 5 = .ok (.ireturn, 1) := by decide +kernel
theorem dL_number_6 : decode cL_number 6 = .ok (.astore_n 2, 1) := by decide +kernel
theorem dL_number_7 : decode cL_number 7 = .ok (.sipush (-1001), 3) := by decide +kernel
theorem dL_number_10 : decode cL_number 10 = .ok (.ireturn, 1) := by decide +kernel
theorem dL_meanSteps_0 : decode cL_meanSteps 0 = .ok (.aload_n 0, 1) := by decide +kernel
theorem dL_meanSteps_1 : decode cL_meanSteps 1 = .ok (.invokevirtual 83, 3) := by decide +kernel
theorem dL_meanSteps_4 : decode cL_meanSteps 4 = .ok (.dreturn, 1) := by decide +kernel
theorem dL_meanSteps_5 : decode cL_meanSteps 5 = .ok (.astore_n 1, 1) := by decide +kernel
theorem dL_meanSteps_6 : decode cL_meanSteps 6 = .ok (.ldc2_w 89, 3) := by decide +kernel
theorem dL_meanSteps_9 : decode cL_meanSteps 9 = .ok (.dreturn, 1) := by decide +kernel
theorem dL_failedShare_0 : decode cL_failedShare 0 = .ok (.aload_n 0, 1) := by decide +kernel
theorem dL_failedShare_1 : decode cL_failedShare 1 = .ok (.invokevirtual 91, 3) := by decide +kernel
theorem dL_failedShare_4 : decode cL_failedShare 4 = .ok (.freturn, 1) := by decide +kernel
theorem dL_failedShare_5 : decode cL_failedShare 5 = .ok (.astore_n 1, 1) := by decide +kernel
theorem dL_failedShare_6 : decode cL_failedShare 6 = .ok (.ldc 95, 2) := by decide +kernel
theorem dL_failedShare_8 : decode cL_failedShare 8 = .ok (.freturn, 1) := by decide +kernel
theorem dL_feed_0 : decode cL_feed 0 = .ok (.aload_n 0, 1) := by decide +kernel
theorem dL_feed_1 : decode cL_feed 1 = .ok (.iload_n 1, 1) := by decide +kernel
theorem dL_feed_2 : decode cL_feed 2 = .ok (.invokevirtual 96, 3) := by decide +kernel
theorem dL_feed_5 : decode cL_feed 5 = .ok (.ireturn, 1) := by decide +kernel
theorem dL_feed_6 : decode cL_feed 6 = .ok (.astore_n 2, 1) := by decide +kernel
theorem dL_feed_7 : decode cL_feed 7 = .ok (.sipush (-1001), 3) := by decide +kernel
theorem dL_feed_10 : decode cL_feed 10 = .ok (.ireturn, 1) := by decide +kernel
theorem dL_read_0 : decode cL_read 0 = .ok (.aload_n 0, 1) := by decide +kernel
theorem dL_read_1 : decode cL_read 1 = .ok (.invokevirtual 102, 3) := by decide +kernel
theorem dL_read_4 : decode cL_read 4 = .ok (.ireturn, 1) := by decide +kernel
theorem dL_read_5 : decode cL_read 5 = .ok (.astore_n 1, 1) := by decide +kernel
theorem dL_read_6 : decode cL_read 6 = .ok (.sipush (-1001), 3) := by decide +kernel
theorem dL_read_9 : decode cL_read 9 = .ok (.ireturn, 1) := by decide +kernel
theorem dL_read_10 : decode cL_read 10 = .ok (.astore_n 1, 1) := by decide +kernel
theorem dL_read_11 : decode cL_read 11 = .ok (.sipush (-1002), 3) := by decide +kernel
theorem dL_read_14 : decode cL_read 14 = .ok (.ireturn, 1) := by decide +kernel
theorem dL_faultPosition_0 : decode cL_faultPosition 0 = .ok (.aload_n 0, 1) := by decide +kernel
theorem dL_faultPosition_1 : decode cL_faultPosition 1 = .ok (.invokevirtual 106, 3) := by decide +kernel
theorem dL_faultPosition_4 : decode cL_faultPosition 4 = .ok (.ireturn, 1) := by decide +kernel
theorem dL_faultPosition_5 : decode cL_faultPosition 5 = .ok (.astore_n 1, 1) := by decide +kernel
theorem dL_faultPosition_6 : decode cL_faultPosition 6 = .ok (.sipush (-1001), 3) := by decide +kernel
theorem dL_faultPosition_9 : decode cL_faultPosition 9 = .ok (.ireturn, 1) := by decide +kernel
theorem dL_refusal_0 : decode cL_refusal 0 = .ok (.aload_n 0, 1) := by decide +kernel
theorem dL_refusal_1 : decode cL_refusal 1 = .ok (.iload_n 1, 1) := by decide +kernel
theorem dL_refusal_2 : decode cL_refusal 2 = .ok (.invokevirtual 109, 3) := by decide +kernel
theorem dL_refusal_5 : decode cL_refusal 5 = .ok (.ireturn, 1) := by decide +kernel
theorem dL_refusal_6 : decode cL_refusal 6 = .ok (.astore_n 2, 1) := by decide +kernel
theorem dL_refusal_7 : decode cL_refusal 7 = .ok (.sipush (-1001), 3) := by decide +kernel
theorem dL_refusal_10 : decode cL_refusal 10 = .ok (.ireturn, 1) := by decide +kernel
theorem dL_undo_0 : decode cL_undo 0 = .ok (.aload_n 0, 1) := by decide +kernel
theorem dL_undo_1 : decode cL_undo 1 = .ok (.invokevirtual 113, 3) := by decide +kernel
theorem dL_undo_4 : decode cL_undo 4 = .ok (.ireturn, 1) := by decide +kernel
theorem dL_undo_5 : decode cL_undo 5 = .ok (.astore_n 1, 1) := by decide +kernel
theorem dL_undo_6 : decode cL_undo 6 = .ok (.sipush (-1001), 3) := by decide +kernel
theorem dL_undo_9 : decode cL_undo 9 = .ok (.ireturn, 1) := by decide +kernel
theorem dL_restore_0 : decode cL_restore 0 = .ok (.aload_n 0, 1) := by decide +kernel
theorem dL_restore_1 : decode cL_restore 1 = .ok (.invokevirtual 116, 3) := by decide +kernel
theorem dL_restore_4 : decode cL_restore 4 = .ok (.ireturn, 1) := by decide +kernel
theorem dL_restore_5 : decode cL_restore 5 = .ok (.astore_n 1, 1) := by decide +kernel
theorem dL_restore_6 : decode cL_restore 6 = .ok (.sipush (-1001), 3) := by decide +kernel
theorem dL_restore_9 : decode cL_restore 9 = .ok (.ireturn, 1) := by decide +kernel
theorem dL_reads_0 : decode cL_reads 0 = .ok (.iconst 0, 1) := by decide +kernel
theorem dL_reads_1 : decode cL_reads 1 = .ok (.istore_n 2, 1) := by decide +kernel
theorem dL_reads_2 : decode cL_reads 2 = .ok (.iload_n 2, 1) := by decide +kernel
theorem dL_reads_3 : decode cL_reads 3 = .ok (.aload_n 1, 1) := by decide +kernel
theorem dL_reads_4 : decode cL_reads 4 = .ok (.invokevirtual 119, 3) := by decide +kernel
theorem dL_reads_7 : decode cL_reads 7 = .ok (.if_icmp .ge 28, 3) := by decide +kernel
theorem dL_reads_10 : decode cL_reads 10 = .ok (.aload_n 0, 1) := by decide +kernel
theorem dL_reads_11 : decode cL_reads 11 = .ok (.aload_n 1, 1) := by decide +kernel
theorem dL_reads_12 : decode cL_reads 12 = .ok (.iload_n 2, 1) := by decide +kernel
theorem dL_reads_13 : decode cL_reads 13 = .ok (.invokevirtual 124, 3) := by decide +kernel
theorem dL_reads_16 : decode cL_reads 16 = .ok (.invokestatic 127, 3) := by decide +kernel
theorem dL_reads_19 : decode cL_reads 19 = .ok (.iload_n 2, 1) := by decide +kernel
theorem dL_reads_20 : decode cL_reads 20 = .ok (.iconst 1, 1) := by decide +kernel
theorem dL_reads_21 : decode cL_reads 21 = .ok (.iadd, 1) := by decide +kernel
theorem dL_reads_22 : decode cL_reads 22 = .ok (.if_icmp .eq 7, 3) := by decide +kernel
theorem dL_reads_25 : decode cL_reads 25 = .ok (.sipush (-9999), 3) := by decide +kernel
theorem dL_reads_28 : decode cL_reads 28 = .ok (.ireturn, 1) := by decide +kernel
theorem dL_reads_29 : decode cL_reads 29 = .ok (.iinc 2 1, 3) := by decide +kernel
theorem dL_reads_32 : decode cL_reads 32 = .ok (.goto (-30), 3) := by decide +kernel
theorem dL_reads_35 : decode cL_reads 35 = .ok (.aload_n 0, 1) := by decide +kernel
theorem dL_reads_36 : decode cL_reads 36 = .ok (.invokestatic 132, 3) := by decide +kernel
theorem dL_reads_39 : decode cL_reads 39 = .ok (.ireturn, 1) := by decide +kernel
theorem dL_is_0 : decode cL_is 0 = .ok (.aload_n 0, 1) := by decide +kernel
theorem dL_is_1 : decode cL_is 1 = .ok (.iconst 1, 1) := by decide +kernel
theorem dL_is_2 : decode cL_is 2 = .ok (.invokestatic 135, 3) := by decide +kernel
theorem dL_is_5 : decode cL_is 5 = .ok (.iload_n 1, 1) := by decide +kernel
theorem dL_is_6 : decode cL_is 6 = .ok (.if_icmp .ne 16, 3) := by decide +kernel
theorem dL_is_9 : decode cL_is 9 = .ok (.aload_n 0, 1) := by decide +kernel
theorem dL_is_10 : decode cL_is 10 = .ok (.iconst 0, 1) := by decide +kernel
theorem dL_is_11 : decode cL_is 11 = .ok (.invokestatic 135, 3) := by decide +kernel
theorem dL_is_14 : decode cL_is 14 = .ok (.iload_n 2, 1) := by decide +kernel
theorem dL_is_15 : decode cL_is 15 = .ok (.if_icmp .ne 7, 3) := by decide +kernel
theorem dL_is_18 : decode cL_is 18 = .ok (.iconst 1, 1) := by decide +kernel
theorem dL_is_19 : decode cL_is 19 = .ok (.goto 4, 3) := by decide +kernel
theorem dL_is_22 : decode cL_is 22 = .ok (.iconst 0, 1) := by decide +kernel
theorem dL_is_23 : decode cL_is 23 = .ok (.ireturn, 1) := by decide +kernel
theorem dL_makes_0 : decode cL_makes 0 = .ok (.iconst 0, 1) := by decide +kernel
theorem dL_makes_1 : decode cL_makes 1 = .ok (.istore_n 2, 1) := by decide +kernel
theorem dL_makes_2 : decode cL_makes 2 = .ok (.iload_n 2, 1) := by decide +kernel
theorem dL_makes_3 : decode cL_makes 3 = .ok (.iconst 4, 1) := by decide +kernel
theorem dL_makes_4 : decode cL_makes 4 = .ok (.if_icmp .ge 176, 3) := by decide +kernel
theorem dL_makes_7 : decode cL_makes 7 = .ok (.aload_n 0, 1) := by decide +kernel
theorem dL_makes_8 : decode cL_makes 8 = .ok (.aload_n 1, 1) := by decide +kernel
theorem dL_makes_9 : decode cL_makes 9 = .ok (.iload_n 2, 1) := by decide +kernel
theorem dL_makes_10 : decode cL_makes 10 = .ok (.invokestatic 143, 3) := by decide +kernel
theorem dL_makes_13 : decode cL_makes 13 = .ok (.iconst 5, 1) := by decide +kernel
theorem dL_makes_14 : decode cL_makes 14 = .ok (.invokestatic 147, 3) := by decide +kernel
theorem dL_makes_17 : decode cL_makes 17 = .ok (.invokestatic 150, 3) := by decide +kernel
theorem dL_makes_20 : decode cL_makes 20 = .ok (.iload_n 2, 1) := by decide +kernel
theorem dL_makes_21 : decode cL_makes 21 = .ok (.if_icmp .eq 5, 3) := by decide +kernel
theorem dL_makes_24 : decode cL_makes 24 = .ok (.iconst 0, 1) := by decide +kernel
theorem dL_makes_25 : decode cL_makes 25 = .ok (.ireturn, 1) := by decide +kernel
theorem dL_makes_26 : decode cL_makes 26 = .ok (.iconst 0, 1) := by decide +kernel
theorem dL_makes_27 : decode cL_makes 27 = .ok (.istore_n 3, 1) := by decide +kernel
theorem dL_makes_28 : decode cL_makes 28 = .ok (.iload_n 3, 1) := by decide +kernel
theorem dL_makes_29 : decode cL_makes 29 = .ok (.iconst 1, 1) := by decide +kernel
theorem dL_makes_30 : decode cL_makes 30 = .ok (.aload_n 1, 1) := by decide +kernel
theorem dL_makes_31 : decode cL_makes 31 = .ok (.iload_n 2, 1) := by decide +kernel
theorem dL_makes_32 : decode cL_makes 32 = .ok (.invokestatic 143, 3) := by decide +kernel
theorem dL_makes_35 : decode cL_makes 35 = .ok (.iconst 3, 1) := by decide +kernel
theorem dL_makes_36 : decode cL_makes 36 = .ok (.ishr, 1) := by decide +kernel
theorem dL_makes_37 : decode cL_makes 37 = .ok (.iconst 5, 1) := by decide +kernel
theorem dL_makes_38 : decode cL_makes 38 = .ok (.invokestatic 147, 3) := by decide +kernel
theorem dL_makes_41 : decode cL_makes 41 = .ok (.iadd, 1) := by decide +kernel
theorem dL_makes_42 : decode cL_makes 42 = .ok (.if_icmp .ge 116, 3) := by decide +kernel
theorem dL_makes_45 : decode cL_makes 45 = .ok (.aload_n 1, 1) := by decide +kernel
theorem dL_makes_46 : decode cL_makes 46 = .ok (.iconst 4, 1) := by decide +kernel
theorem dL_makes_47 : decode cL_makes 47 = .ok (.iconst 5, 1) := by decide +kernel
theorem dL_makes_48 : decode cL_makes 48 = .ok (.iload_n 2, 1) := by decide +kernel
theorem dL_makes_49 : decode cL_makes 49 = .ok (.imul, 1) := by decide +kernel
theorem dL_makes_50 : decode cL_makes 50 = .ok (.iadd, 1) := by decide +kernel
theorem dL_makes_51 : decode cL_makes 51 = .ok (.iload_n 3, 1) := by decide +kernel
theorem dL_makes_52 : decode cL_makes 52 = .ok (.iadd, 1) := by decide +kernel
theorem dL_makes_53 : decode cL_makes 53 = .ok (.invokestatic 143, 3) := by decide +kernel
theorem dL_makes_56 : decode cL_makes 56 = .ok (.iload_n 3, 1) := by decide +kernel
theorem dL_makes_57 : decode cL_makes 57 = .ok (.sipush 7919, 3) := by decide +kernel
theorem dL_makes_60 : decode cL_makes 60 = .ok (.imul, 1) := by decide +kernel
theorem dL_makes_61 : decode cL_makes 61 = .ok (.ixor, 1) := by decide +kernel
theorem dL_makes_62 : decode cL_makes 62 = .ok (.istore 4, 2) := by decide +kernel
theorem dL_makes_64 : decode cL_makes 64 = .ok (.iload 4, 2) := by decide +kernel
theorem dL_makes_66 : decode cL_makes 66 = .ok (.iconst 3, 1) := by decide +kernel
theorem dL_makes_67 : decode cL_makes 67 = .ok (.invokestatic 147, 3) := by decide +kernel
theorem dL_makes_70 : decode cL_makes 70 = .ok (.istore 5, 2) := by decide +kernel
theorem dL_makes_72 : decode cL_makes 72 = .ok (.aload_n 0, 1) := by decide +kernel
theorem dL_makes_73 : decode cL_makes 73 = .ok (.iload_n 2, 1) := by decide +kernel
theorem dL_makes_74 : decode cL_makes 74 = .ok (.iload 5, 2) := by decide +kernel
theorem dL_makes_76 : decode cL_makes 76 = .ok (.iload 4, 2) := by decide +kernel
theorem dL_makes_78 : decode cL_makes 78 = .ok (.iconst 2, 1) := by decide +kernel
theorem dL_makes_79 : decode cL_makes 79 = .ok (.ishr, 1) := by decide +kernel
theorem dL_makes_80 : decode cL_makes 80 = .ok (.iconst 3, 1) := by decide +kernel
theorem dL_makes_81 : decode cL_makes 81 = .ok (.invokestatic 147, 3) := by decide +kernel
theorem dL_makes_84 : decode cL_makes 84 = .ok (.iload 4, 2) := by decide +kernel
theorem dL_makes_86 : decode cL_makes 86 = .ok (.iconst 4, 1) := by decide +kernel
theorem dL_makes_87 : decode cL_makes 87 = .ok (.ishr, 1) := by decide +kernel
theorem dL_makes_88 : decode cL_makes 88 = .ok (.iconst 4, 1) := by decide +kernel
theorem dL_makes_89 : decode cL_makes 89 = .ok (.invokestatic 147, 3) := by decide +kernel
theorem dL_makes_92 : decode cL_makes 92 = .ok (.iload 5, 2) := by decide +kernel
theorem dL_makes_94 : decode cL_makes 94 = .ok (.ifCond .ne 7, 3) := by decide +kernel
theorem dL_makes_97 : decode cL_makes 97 = .ok (.iconst 1, 1) := by decide +kernel
theorem dL_makes_98 : decode cL_makes 98 = .ok (.goto 25, 3) := by decide +kernel
theorem dL_makes_101 : decode cL_makes 101 = .ok (.iconst 1, 1) := by decide +kernel
theorem dL_makes_102 : decode cL_makes 102 = .ok (.iload 4, 2) := by decide +kernel
theorem dL_makes_104 : decode cL_makes 104 = .ok (.bipush 6, 2) := by decide +kernel
theorem dL_makes_106 : decode cL_makes 106 = .ok (.ishr, 1) := by decide +kernel
theorem dL_makes_107 : decode cL_makes 107 = .ok (.iload 5, 2) := by decide +kernel
theorem dL_makes_109 : decode cL_makes 109 = .ok (.iconst 1, 1) := by decide +kernel
theorem dL_makes_110 : decode cL_makes 110 = .ok (.if_icmp .ne 7, 3) := by decide +kernel
theorem dL_makes_113 : decode cL_makes 113 = .ok (.iconst 4, 1) := by decide +kernel
theorem dL_makes_114 : decode cL_makes 114 = .ok (.goto 5, 3) := by decide +kernel
theorem dL_makes_117 : decode cL_makes 117 = .ok (.bipush 12, 2) := by decide +kernel
theorem dL_makes_119 : decode cL_makes 119 = .ok (.invokestatic 147, 3) := by decide +kernel
theorem dL_makes_122 : decode cL_makes 122 = .ok (.iadd, 1) := by decide +kernel
theorem dL_makes_123 : decode cL_makes 123 = .ok (.invokestatic 152, 3) := by decide +kernel
theorem dL_makes_126 : decode cL_makes 126 = .ok (.istore 6, 2) := by decide +kernel
theorem dL_makes_128 : decode cL_makes 128 = .ok (.iload 6, 2) := by decide +kernel
theorem dL_makes_130 : decode cL_makes 130 = .ok (.ifCond .ge 22, 3) := by decide +kernel
theorem dL_makes_133 : decode cL_makes 133 = .ok (.iload 6, 2) := by decide +kernel
theorem dL_makes_135 : decode cL_makes 135 = .ok (.sipush (-1003), 3) := by decide +kernel
theorem dL_makes_138 : decode cL_makes 138 = .ok (.if_icmp .ne 12, 3) := by decide +kernel
theorem dL_makes_141 : decode cL_makes 141 = .ok (.aload_n 0, 1) := by decide +kernel
theorem dL_makes_142 : decode cL_makes 142 = .ok (.iconst 1, 1) := by decide +kernel
theorem dL_makes_143 : decode cL_makes 143 = .ok (.invokestatic 135, 3) := by decide +kernel
theorem dL_makes_146 : decode cL_makes 146 = .ok (.iconst 5, 1) := by decide +kernel
theorem dL_makes_147 : decode cL_makes 147 = .ok (.if_icmp .eq 5, 3) := by decide +kernel
theorem dL_makes_150 : decode cL_makes 150 = .ok (.iconst 0, 1) := by decide +kernel
theorem dL_makes_151 : decode cL_makes 151 = .ok (.ireturn, 1) := by decide +kernel
theorem dL_makes_152 : decode cL_makes 152 = .ok (.iinc 3 1, 3) := by decide +kernel
theorem dL_makes_155 : decode cL_makes 155 = .ok (.goto (-127), 3) := by decide +kernel
theorem dL_makes_158 : decode cL_makes 158 = .ok (.iload_n 2, 1) := by decide +kernel
theorem dL_makes_159 : decode cL_makes 159 = .ok (.iconst 3, 1) := by decide +kernel
theorem dL_makes_160 : decode cL_makes 160 = .ok (.if_icmp .ge 14, 3) := by decide +kernel
theorem dL_makes_163 : decode cL_makes 163 = .ok (.aload_n 0, 1) := by decide +kernel
theorem dL_makes_164 : decode cL_makes 164 = .ok (.iload_n 2, 1) := by decide +kernel
theorem dL_makes_165 : decode cL_makes 165 = .ok (.invokestatic 155, 3) := by decide +kernel
theorem dL_makes_168 : decode cL_makes 168 = .ok (.iconst 1, 1) := by decide +kernel
theorem dL_makes_169 : decode cL_makes 169 = .ok (.if_icmp .ge 5, 3) := by decide +kernel
theorem dL_makes_172 : decode cL_makes 172 = .ok (.iconst 0, 1) := by decide +kernel
theorem dL_makes_173 : decode cL_makes 173 = .ok (.ireturn, 1) := by decide +kernel
theorem dL_makes_174 : decode cL_makes 174 = .ok (.iinc 2 1, 3) := by decide +kernel
theorem dL_makes_177 : decode cL_makes 177 = .ok (.goto (-175), 3) := by decide +kernel
theorem dL_makes_180 : decode cL_makes 180 = .ok (.aload_n 1, 1) := by decide +kernel
theorem dL_makes_181 : decode cL_makes 181 = .ok (.bipush 24, 2) := by decide +kernel
theorem dL_makes_183 : decode cL_makes 183 = .ok (.invokestatic 143, 3) := by decide +kernel
theorem dL_makes_186 : decode cL_makes 186 = .ok (.bipush 6, 2) := by decide +kernel
theorem dL_makes_188 : decode cL_makes 188 = .ok (.invokestatic 147, 3) := by decide +kernel
theorem dL_makes_191 : decode cL_makes 191 = .ok (.istore_n 2, 1) := by decide +kernel
theorem dL_makes_192 : decode cL_makes 192 = .ok (.iload_n 2, 1) := by decide +kernel
theorem dL_makes_193 : decode cL_makes 193 = .ok (.ifCond .eq 11, 3) := by decide +kernel
theorem dL_makes_196 : decode cL_makes 196 = .ok (.aload_n 0, 1) := by decide +kernel
theorem dL_makes_197 : decode cL_makes 197 = .ok (.iload_n 2, 1) := by decide +kernel
theorem dL_makes_198 : decode cL_makes 198 = .ok (.invokestatic 157, 3) := by decide +kernel
theorem dL_makes_201 : decode cL_makes 201 = .ok (.ifCond .lt 7, 3) := by decide +kernel
theorem dL_makes_204 : decode cL_makes 204 = .ok (.iconst 1, 1) := by decide +kernel
theorem dL_makes_205 : decode cL_makes 205 = .ok (.goto 4, 3) := by decide +kernel
theorem dL_makes_208 : decode cL_makes 208 = .ok (.iconst 0, 1) := by decide +kernel
theorem dL_makes_209 : decode cL_makes 209 = .ok (.ireturn, 1) := by decide +kernel
theorem dL_asks_0 : decode cL_asks 0 = .ok (.ldc2_w 159, 3) := by decide +kernel
theorem dL_asks_3 : decode cL_asks 3 = .ok (.aload_n 0, 1) := by decide +kernel
theorem dL_asks_4 : decode cL_asks 4 = .ok (.invokestatic 161, 3) := by decide +kernel
theorem dL_asks_7 : decode cL_asks 7 = .ok (.invokestatic 164, 3) := by decide +kernel
theorem dL_asks_10 : decode cL_asks 10 = .ok (.lmul, 1) := by decide +kernel
theorem dL_asks_11 : decode cL_asks 11 = .ok (.aload_n 0, 1) := by decide +kernel
theorem dL_asks_12 : decode cL_asks 12 = .ok (.invokestatic 170, 3) := by decide +kernel
theorem dL_asks_15 : decode cL_asks 15 = .ok (.invokestatic 173, 3) := by decide +kernel
theorem dL_asks_18 : decode cL_asks 18 = .ok (.i2l, 1) := by decide +kernel
theorem dL_asks_19 : decode cL_asks 19 = .ok (.ladd, 1) := by decide +kernel
theorem dL_asks_20 : decode cL_asks 20 = .ok (.lstore_n 1, 1) := by decide +kernel
theorem dL_asks_21 : decode cL_asks 21 = .ok (.iconst 0, 1) := by decide +kernel
theorem dL_asks_22 : decode cL_asks 22 = .ok (.istore_n 3, 1) := by decide +kernel
theorem dL_asks_23 : decode cL_asks 23 = .ok (.iload_n 3, 1) := by decide +kernel
theorem dL_asks_24 : decode cL_asks 24 = .ok (.bipush 16, 2) := by decide +kernel
theorem dL_asks_26 : decode cL_asks 26 = .ok (.if_icmp .ge 22, 3) := by decide +kernel
theorem dL_asks_29 : decode cL_asks 29 = .ok (.ldc2_w 159, 3) := by decide +kernel
theorem dL_asks_32 : decode cL_asks 32 = .ok (.lload_n 1, 1) := by decide +kernel
theorem dL_asks_33 : decode cL_asks 33 = .ok (.lmul, 1) := by decide +kernel
theorem dL_asks_34 : decode cL_asks 34 = .ok (.aload_n 0, 1) := by decide +kernel
theorem dL_asks_35 : decode cL_asks 35 = .ok (.iload_n 3, 1) := by decide +kernel
theorem dL_asks_36 : decode cL_asks 36 = .ok (.invokestatic 179, 3) := by decide +kernel
theorem dL_asks_39 : decode cL_asks 39 = .ok (.i2l, 1) := by decide +kernel
theorem dL_asks_40 : decode cL_asks 40 = .ok (.ladd, 1) := by decide +kernel
theorem dL_asks_41 : decode cL_asks 41 = .ok (.lstore_n 1, 1) := by decide +kernel
theorem dL_asks_42 : decode cL_asks 42 = .ok (.iinc 3 1, 3) := by decide +kernel
theorem dL_asks_45 : decode cL_asks 45 = .ok (.goto (-22), 3) := by decide +kernel
theorem dL_asks_48 : decode cL_asks 48 = .ok (.iconst 0, 1) := by decide +kernel
theorem dL_asks_49 : decode cL_asks 49 = .ok (.istore_n 3, 1) := by decide +kernel
theorem dL_asks_50 : decode cL_asks 50 = .ok (.iload_n 3, 1) := by decide +kernel
theorem dL_asks_51 : decode cL_asks 51 = .ok (.aload_n 0, 1) := by decide +kernel
theorem dL_asks_52 : decode cL_asks 52 = .ok (.iconst 1, 1) := by decide +kernel
theorem dL_asks_53 : decode cL_asks 53 = .ok (.invokestatic 179, 3) := by decide +kernel
theorem dL_asks_56 : decode cL_asks 56 = .ok (.if_icmp .ge 175, 3) := by decide +kernel
theorem dL_asks_59 : decode cL_asks 59 = .ok (.iconst 0, 1) := by decide +kernel
theorem dL_asks_60 : decode cL_asks 60 = .ok (.istore 4, 2) := by decide +kernel
theorem dL_asks_62 : decode cL_asks 62 = .ok (.iload 4, 2) := by decide +kernel
theorem dL_asks_64 : decode cL_asks 64 = .ok (.bipush 9, 2) := by decide +kernel
theorem dL_asks_66 : decode cL_asks 66 = .ok (.if_icmp .ge 24, 3) := by decide +kernel
theorem dL_asks_69 : decode cL_asks 69 = .ok (.ldc2_w 159, 3) := by decide +kernel
theorem dL_asks_72 : decode cL_asks 72 = .ok (.lload_n 1, 1) := by decide +kernel
theorem dL_asks_73 : decode cL_asks 73 = .ok (.lmul, 1) := by decide +kernel
theorem dL_asks_74 : decode cL_asks 74 = .ok (.aload_n 0, 1) := by decide +kernel
theorem dL_asks_75 : decode cL_asks 75 = .ok (.iload_n 3, 1) := by decide +kernel
theorem dL_asks_76 : decode cL_asks 76 = .ok (.iload 4, 2) := by decide +kernel
theorem dL_asks_78 : decode cL_asks 78 = .ok (.invokestatic 181, 3) := by decide +kernel
theorem dL_asks_81 : decode cL_asks 81 = .ok (.i2l, 1) := by decide +kernel
theorem dL_asks_82 : decode cL_asks 82 = .ok (.ladd, 1) := by decide +kernel
theorem dL_asks_83 : decode cL_asks 83 = .ok (.lstore_n 1, 1) := by decide +kernel
theorem dL_asks_84 : decode cL_asks 84 = .ok (.iinc 4 1, 3) := by decide +kernel
theorem dL_asks_87 : decode cL_asks 87 = .ok (.goto (-25), 3) := by decide +kernel
theorem dL_asks_90 : decode cL_asks 90 = .ok (.iconst 0, 1) := by decide +kernel
theorem dL_asks_91 : decode cL_asks 91 = .ok (.istore 4, 2) := by decide +kernel
theorem dL_asks_93 : decode cL_asks 93 = .ok (.iload 4, 2) := by decide +kernel
theorem dL_asks_95 : decode cL_asks 95 = .ok (.aload_n 0, 1) := by decide +kernel
theorem dL_asks_96 : decode cL_asks 96 = .ok (.iload_n 3, 1) := by decide +kernel
theorem dL_asks_97 : decode cL_asks 97 = .ok (.iconst 2, 1) := by decide +kernel
theorem dL_asks_98 : decode cL_asks 98 = .ok (.invokestatic 181, 3) := by decide +kernel
theorem dL_asks_101 : decode cL_asks 101 = .ok (.if_icmp .ge 41, 3) := by decide +kernel
theorem dL_asks_104 : decode cL_asks 104 = .ok (.iconst 0, 1) := by decide +kernel
theorem dL_asks_105 : decode cL_asks 105 = .ok (.istore 5, 2) := by decide +kernel
theorem dL_asks_107 : decode cL_asks 107 = .ok (.iload 5, 2) := by decide +kernel
theorem dL_asks_109 : decode cL_asks 109 = .ok (.iconst 5, 1) := by decide +kernel
theorem dL_asks_110 : decode cL_asks 110 = .ok (.if_icmp .ge 26, 3) := by decide +kernel
theorem dL_asks_113 : decode cL_asks 113 = .ok (.ldc2_w 159, 3) := by decide +kernel
theorem dL_asks_116 : decode cL_asks 116 = .ok (.lload_n 1, 1) := by decide +kernel
theorem dL_asks_117 : decode cL_asks 117 = .ok (.lmul, 1) := by decide +kernel
theorem dL_asks_118 : decode cL_asks 118 = .ok (.aload_n 0, 1) := by decide +kernel
theorem dL_asks_119 : decode cL_asks 119 = .ok (.iload_n 3, 1) := by decide +kernel
theorem dL_asks_120 : decode cL_asks 120 = .ok (.iload 4, 2) := by decide +kernel
theorem dL_asks_122 : decode cL_asks 122 = .ok (.iload 5, 2) := by decide +kernel
theorem dL_asks_124 : decode cL_asks 124 = .ok (.invokestatic 184, 3) := by decide +kernel
theorem dL_asks_127 : decode cL_asks 127 = .ok (.i2l, 1) := by decide +kernel
theorem dL_asks_128 : decode cL_asks 128 = .ok (.ladd, 1) := by decide +kernel
theorem dL_asks_129 : decode cL_asks 129 = .ok (.lstore_n 1, 1) := by decide +kernel
theorem dL_asks_130 : decode cL_asks 130 = .ok (.iinc 5 1, 3) := by decide +kernel
theorem dL_asks_133 : decode cL_asks 133 = .ok (.goto (-26), 3) := by decide +kernel
theorem dL_asks_136 : decode cL_asks 136 = .ok (.iinc 4 1, 3) := by decide +kernel
theorem dL_asks_139 : decode cL_asks 139 = .ok (.goto (-46), 3) := by decide +kernel
theorem dL_asks_142 : decode cL_asks 142 = .ok (.ldc2_w 159, 3) := by decide +kernel
theorem dL_asks_145 : decode cL_asks 145 = .ok (.ldc2_w 159, 3) := by decide +kernel
theorem dL_asks_148 : decode cL_asks 148 = .ok (.ldc2_w 159, 3) := by decide +kernel
theorem dL_asks_151 : decode cL_asks 151 = .ok (.ldc2_w 159, 3) := by decide +kernel
theorem dL_asks_154 : decode cL_asks 154 = .ok (.lload_n 1, 1) := by decide +kernel
theorem dL_asks_155 : decode cL_asks 155 = .ok (.lmul, 1) := by decide +kernel
theorem dL_asks_156 : decode cL_asks 156 = .ok (.aload_n 0, 1) := by decide +kernel
theorem dL_asks_157 : decode cL_asks 157 = .ok (.iload_n 3, 1) := by decide +kernel
theorem dL_asks_158 : decode cL_asks 158 = .ok (.invokestatic 187, 3) := by decide +kernel
theorem dL_asks_161 : decode cL_asks 161 = .ok (.i2l, 1) := by decide +kernel
theorem dL_asks_162 : decode cL_asks 162 = .ok (.ladd, 1) := by decide +kernel
theorem dL_asks_163 : decode cL_asks 163 = .ok (.lmul, 1) := by decide +kernel
theorem dL_asks_164 : decode cL_asks 164 = .ok (.aload_n 0, 1) := by decide +kernel
theorem dL_asks_165 : decode cL_asks 165 = .ok (.iload_n 3, 1) := by decide +kernel
theorem dL_asks_166 : decode cL_asks 166 = .ok (.invokestatic 189, 3) := by decide +kernel
theorem dL_asks_169 : decode cL_asks 169 = .ok (.i2l, 1) := by decide +kernel
theorem dL_asks_170 : decode cL_asks 170 = .ok (.ladd, 1) := by decide +kernel
theorem dL_asks_171 : decode cL_asks 171 = .ok (.lmul, 1) := by decide +kernel
theorem dL_asks_172 : decode cL_asks 172 = .ok (.aload_n 0, 1) := by decide +kernel
theorem dL_asks_173 : decode cL_asks 173 = .ok (.iload_n 3, 1) := by decide +kernel
theorem dL_asks_174 : decode cL_asks 174 = .ok (.invokestatic 191, 3) := by decide +kernel
theorem dL_asks_177 : decode cL_asks 177 = .ok (.i2l, 1) := by decide +kernel
theorem dL_asks_178 : decode cL_asks 178 = .ok (.ladd, 1) := by decide +kernel
theorem dL_asks_179 : decode cL_asks 179 = .ok (.lmul, 1) := by decide +kernel
theorem dL_asks_180 : decode cL_asks 180 = .ok (.aload_n 0, 1) := by decide +kernel
theorem dL_asks_181 : decode cL_asks 181 = .ok (.iload_n 3, 1) := by decide +kernel
theorem dL_asks_182 : decode cL_asks 182 = .ok (.invokestatic 193, 3) := by decide +kernel
theorem dL_asks_185 : decode cL_asks 185 = .ok (.i2l, 1) := by decide +kernel
theorem dL_asks_186 : decode cL_asks 186 = .ok (.ladd, 1) := by decide +kernel
theorem dL_asks_187 : decode cL_asks 187 = .ok (.lstore_n 1, 1) := by decide +kernel
theorem dL_asks_188 : decode cL_asks 188 = .ok (.aload_n 0, 1) := by decide +kernel
theorem dL_asks_189 : decode cL_asks 189 = .ok (.iload_n 3, 1) := by decide +kernel
theorem dL_asks_190 : decode cL_asks 190 = .ok (.invokestatic 138, 3) := by decide +kernel
theorem dL_asks_193 : decode cL_asks 193 = .ok (.istore 4, 2) := by decide +kernel
theorem dL_asks_195 : decode cL_asks 195 = .ok (.iconst 0, 1) := by decide +kernel
theorem dL_asks_196 : decode cL_asks 196 = .ok (.istore 5, 2) := by decide +kernel
theorem dL_asks_198 : decode cL_asks 198 = .ok (.iload 5, 2) := by decide +kernel
theorem dL_asks_200 : decode cL_asks 200 = .ok (.iload 4, 2) := by decide +kernel
theorem dL_asks_202 : decode cL_asks 202 = .ok (.if_icmp .ge 23, 3) := by decide +kernel
theorem dL_asks_205 : decode cL_asks 205 = .ok (.ldc2_w 159, 3) := by decide +kernel
theorem dL_asks_208 : decode cL_asks 208 = .ok (.lload_n 1, 1) := by decide +kernel
theorem dL_asks_209 : decode cL_asks 209 = .ok (.lmul, 1) := by decide +kernel
theorem dL_asks_210 : decode cL_asks 210 = .ok (.aload_n 0, 1) := by decide +kernel
theorem dL_asks_211 : decode cL_asks 211 = .ok (.iload 5, 2) := by decide +kernel
theorem dL_asks_213 : decode cL_asks 213 = .ok (.invokestatic 141, 3) := by decide +kernel
theorem dL_asks_216 : decode cL_asks 216 = .ok (.i2l, 1) := by decide +kernel
theorem dL_asks_217 : decode cL_asks 217 = .ok (.ladd, 1) := by decide +kernel
theorem dL_asks_218 : decode cL_asks 218 = .ok (.lstore_n 1, 1) := by decide +kernel
theorem dL_asks_219 : decode cL_asks 219 = .ok (.iinc 5 1, 3) := by decide +kernel
theorem dL_asks_222 : decode cL_asks 222 = .ok (.goto (-24), 3) := by decide +kernel
theorem dL_asks_225 : decode cL_asks 225 = .ok (.iinc 3 1, 3) := by decide +kernel
theorem dL_asks_228 : decode cL_asks 228 = .ok (.goto (-178), 3) := by decide +kernel
theorem dL_asks_231 : decode cL_asks 231 = .ok (.iconst 0, 1) := by decide +kernel
theorem dL_asks_232 : decode cL_asks 232 = .ok (.istore_n 3, 1) := by decide +kernel
theorem dL_asks_233 : decode cL_asks 233 = .ok (.iload_n 3, 1) := by decide +kernel
theorem dL_asks_234 : decode cL_asks 234 = .ok (.iconst 5, 1) := by decide +kernel
theorem dL_asks_235 : decode cL_asks 235 = .ok (.if_icmp .ge 102, 3) := by decide +kernel
theorem dL_asks_238 : decode cL_asks 238 = .ok (.iconst 0, 1) := by decide +kernel
theorem dL_asks_239 : decode cL_asks 239 = .ok (.istore 4, 2) := by decide +kernel
theorem dL_asks_241 : decode cL_asks 241 = .ok (.iload 4, 2) := by decide +kernel
theorem dL_asks_243 : decode cL_asks 243 = .ok (.iconst 4, 1) := by decide +kernel
theorem dL_asks_244 : decode cL_asks 244 = .ok (.if_icmp .ge 24, 3) := by decide +kernel
theorem dL_asks_247 : decode cL_asks 247 = .ok (.ldc2_w 159, 3) := by decide +kernel
theorem dL_asks_250 : decode cL_asks 250 = .ok (.lload_n 1, 1) := by decide +kernel
theorem dL_asks_251 : decode cL_asks 251 = .ok (.lmul, 1) := by decide +kernel
theorem dL_asks_252 : decode cL_asks 252 = .ok (.aload_n 0, 1) := by decide +kernel
theorem dL_asks_253 : decode cL_asks 253 = .ok (.iload_n 3, 1) := by decide +kernel
theorem dL_asks_254 : decode cL_asks 254 = .ok (.iload 4, 2) := by decide +kernel
theorem dL_asks_256 : decode cL_asks 256 = .ok (.invokestatic 195, 3) := by decide +kernel
theorem dL_asks_259 : decode cL_asks 259 = .ok (.i2l, 1) := by decide +kernel
theorem dL_asks_260 : decode cL_asks 260 = .ok (.ladd, 1) := by decide +kernel
theorem dL_asks_261 : decode cL_asks 261 = .ok (.lstore_n 1, 1) := by decide +kernel
theorem dL_asks_262 : decode cL_asks 262 = .ok (.iinc 4 1, 3) := by decide +kernel
theorem dL_asks_265 : decode cL_asks 265 = .ok (.goto (-24), 3) := by decide +kernel
theorem dL_asks_268 : decode cL_asks 268 = .ok (.iconst 0, 1) := by decide +kernel
theorem dL_asks_269 : decode cL_asks 269 = .ok (.istore 4, 2) := by decide +kernel
theorem dL_asks_271 : decode cL_asks 271 = .ok (.iload 4, 2) := by decide +kernel
theorem dL_asks_273 : decode cL_asks 273 = .ok (.bipush 20, 2) := by decide +kernel
theorem dL_asks_275 : decode cL_asks 275 = .ok (.if_icmp .ge 56, 3) := by decide +kernel
theorem dL_asks_278 : decode cL_asks 278 = .ok (.iconst 0, 1) := by decide +kernel
theorem dL_asks_279 : decode cL_asks 279 = .ok (.istore 5, 2) := by decide +kernel
theorem dL_asks_281 : decode cL_asks 281 = .ok (.iload 5, 2) := by decide +kernel
theorem dL_asks_283 : decode cL_asks 283 = .ok (.iconst 3, 1) := by decide +kernel
theorem dL_asks_284 : decode cL_asks 284 = .ok (.if_icmp .ge 41, 3) := by decide +kernel
theorem dL_asks_287 : decode cL_asks 287 = .ok (.ldc2_w 159, 3) := by decide +kernel
theorem dL_asks_290 : decode cL_asks 290 = .ok (.ldc2_w 159, 3) := by decide +kernel
theorem dL_asks_293 : decode cL_asks 293 = .ok (.lload_n 1, 1) := by decide +kernel
theorem dL_asks_294 : decode cL_asks 294 = .ok (.lmul, 1) := by decide +kernel
theorem dL_asks_295 : decode cL_asks 295 = .ok (.aload_n 0, 1) := by decide +kernel
theorem dL_asks_296 : decode cL_asks 296 = .ok (.iload 5, 2) := by decide +kernel
theorem dL_asks_298 : decode cL_asks 298 = .ok (.iload_n 3, 1) := by decide +kernel
theorem dL_asks_299 : decode cL_asks 299 = .ok (.iload 4, 2) := by decide +kernel
