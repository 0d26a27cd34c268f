theorem dX9_isOutcome_0 : decode cX9_isOutcome 0 = .ok (.aload_n 0, 1) := by decide +kernel
theorem dX9_isOutcome_1 : decode cX9_isOutcome 1 = .ok (.getfield 224, 3) := by decide +kernel
theorem dX9_isOutcome_11 : decode cX9_isOutcome 11 = .ok (.iload_n 1, 1) := by decide +kernel
theorem dX9_isOutcome_12 : decode cX9_isOutcome 12 = .ok (.iconst 1, 1) := by decide +kernel
theorem dX9_isOutcome_13 : decode cX9_isOutcome 13 = .ok (.if_icmp .gt 29, 3) := by decide +kernel
theorem dX9_isOutcome_16 : decode cX9_isOutcome 16 = .ok (.iload_n 2, 1) := by decide +kernel
theorem dX9_isOutcome_17 : decode cX9_isOutcome 17 = .ok (.ifCond .lt 25, 3) := by decide +kernel
theorem dX9_isOutcome_20 : decode cX9_isOutcome 20 = .ok (.aload_n 0, 1) := by decide +kernel
theorem dX9_isOutcome_21 : decode cX9_isOutcome 21 = .ok (.iload_n 1, 1) := by decide +kernel
theorem dX9_isOutcome_22 : decode cX9_isOutcome 22 = .ok (.invokevirtual 347, 3) := by decide +kernel
theorem dX9_isOutcome_25 : decode cX9_isOutcome 25 = .ok (.ifCond .eq 17, 3) := by decide +kernel
theorem dX9_isOutcome_28 : decode cX9_isOutcome 28 = .ok (.iload_n 2, 1) := by decide +kernel
theorem dX9_isOutcome_29 : decode cX9_isOutcome 29 = .ok (.aload_n 0, 1) := by decide +kernel
theorem dX9_isOutcome_30 : decode cX9_isOutcome 30 = .ok (.getfield 72, 3) := by decide +kernel
theorem dX9_isOutcome_33 : decode cX9_isOutcome 33 = .ok (.iload_n 1, 1) := by decide +kernel
theorem dX9_isOutcome_34 : decode cX9_isOutcome 34 = .ok (.iaload, 1) := by decide +kernel
theorem dX9_isOutcome_35 : decode cX9_isOutcome 35 = .ok (.if_icmp .ge 7, 3) := by decide +kernel
theorem dX9_isOutcome_38 : decode cX9_isOutcome 38 = .ok (.iconst 1, 1) := by decide +kernel
theorem dX9_isOutcome_39 : decode cX9_isOutcome 39 = .ok (.goto 4, 3) := by decide +kernel
theorem dX9_isOutcome_4 : decode cX9_isOutcome 4 = .ok (.ifCond .eq 38, 3) := by decide +kernel
theorem dX9_isOutcome_42 : decode cX9_isOutcome 42 = .ok (.iconst 0, 1) := by decide +kernel
theorem dX9_isOutcome_43 : decode cX9_isOutcome 43 = .ok (.ireturn, 1) := by decide +kernel
theorem dX9_isOutcome_7 : decode cX9_isOutcome 7 = .ok (.iload_n 1, 1) := by decide +kernel
theorem dX9_isOutcome_8 : decode cX9_isOutcome 8 = .ok (.ifCond .lt 34, 3) := by decide +kernel
theorem dX9_outcome_0 : decode cX9_outcome 0 = .ok (.aload_n 0, 1) := by decide +kernel
theorem dX9_outcome_1 : decode cX9_outcome 1 = .ok (.iload_n 1, 1) := by decide +kernel
theorem dX9_outcome_10 : decode cX9_outcome 10 = .ok (.ifCond .lt 30, 3) := by decide +kernel
theorem dX9_outcome_13 : decode cX9_outcome 13 = .ok (.iload_n 3, 1) := by decide +kernel
theorem dX9_outcome_14 : decode cX9_outcome 14 = .ok (.bipush 13, 2) := by decide +kernel
theorem dX9_outcome_16 : decode cX9_outcome 16 = .ok (.if_icmp .ge 24, 3) := by decide +kernel
theorem dX9_outcome_19 : decode cX9_outcome 19 = .ok (.aload_n 0, 1) := by decide +kernel
theorem dX9_outcome_2 : decode cX9_outcome 2 = .ok (.iload_n 2, 1) := by decide +kernel
theorem dX9_outcome_20 : decode cX9_outcome 20 = .ok (.iload_n 1, 1) := by decide +kernel
theorem dX9_outcome_21 : decode cX9_outcome 21 = .ok (.aload_n 0, 1) := by decide +kernel
theorem dX9_outcome_22 : decode cX9_outcome 22 = .ok (.getfield 69, 3) := by decide +kernel
theorem dX9_outcome_25 : decode cX9_outcome 25 = .ok (.sipush 3000, 3) := by decide +kernel
theorem dX9_outcome_28 : decode cX9_outcome 28 = .ok (.iload_n 1, 1) := by decide +kernel
theorem dX9_outcome_29 : decode cX9_outcome 29 = .ok (.imul, 1) := by decide +kernel
theorem dX9_outcome_3 : decode cX9_outcome 3 = .ok (.invokevirtual 350, 3) := by decide +kernel
theorem dX9_outcome_30 : decode cX9_outcome 30 = .ok (.iload_n 2, 1) := by decide +kernel
theorem dX9_outcome_31 : decode cX9_outcome 31 = .ok (.iadd, 1) := by decide +kernel
theorem dX9_outcome_32 : decode cX9_outcome 32 = .ok (.iaload, 1) := by decide +kernel
theorem dX9_outcome_33 : decode cX9_outcome 33 = .ok (.iload_n 3, 1) := by decide +kernel
theorem dX9_outcome_34 : decode cX9_outcome 34 = .ok (.invokevirtual 324, 3) := by decide +kernel
theorem dX9_outcome_37 : decode cX9_outcome 37 = .ok (.goto 4, 3) := by decide +kernel
theorem dX9_outcome_40 : decode cX9_outcome 40 = .ok (.iconst 0, 1) := by decide +kernel
theorem dX9_outcome_41 : decode cX9_outcome 41 = .ok (.ireturn, 1) := by decide +kernel
theorem dX9_outcome_6 : decode cX9_outcome 6 = .ok (.ifCond .eq 34, 3) := by decide +kernel
theorem dX9_outcome_9 : decode cX9_outcome 9 = .ok (.iload_n 3, 1) := by decide +kernel
theorem dX9_outcomes_0 : decode cX9_outcomes 0 = .ok (.aload_n 0, 1) := by decide +kernel
theorem dX9_outcomes_1 : decode cX9_outcomes 1 = .ok (.getfield 224, 3) := by decide +kernel
theorem dX9_outcomes_11 : decode cX9_outcomes 11 = .ok (.iload_n 1, 1) := by decide +kernel
theorem dX9_outcomes_12 : decode cX9_outcomes 12 = .ok (.iconst 1, 1) := by decide +kernel
theorem dX9_outcomes_13 : decode cX9_outcomes 13 = .ok (.if_icmp .le 5, 3) := by decide +kernel
theorem dX9_outcomes_16 : decode cX9_outcomes 16 = .ok (.iconst (-1), 1) := by decide +kernel
theorem dX9_outcomes_17 : decode cX9_outcomes 17 = .ok (.ireturn, 1) := by decide +kernel
theorem dX9_outcomes_18 : decode cX9_outcomes 18 = .ok (.aload_n 0, 1) := by decide +kernel
theorem dX9_outcomes_19 : decode cX9_outcomes 19 = .ok (.iload_n 1, 1) := by decide +kernel
theorem dX9_outcomes_20 : decode cX9_outcomes 20 = .ok (.invokevirtual 347, 3) := by decide +kernel
theorem dX9_outcomes_23 : decode cX9_outcomes 23 = .ok (.ifCond .eq 12, 3) := by decide +kernel
theorem dX9_outcomes_26 : decode cX9_outcomes 26 = .ok (.aload_n 0, 1) := by decide +kernel
theorem dX9_outcomes_27 : decode cX9_outcomes 27 = .ok (.getfield 72, 3) := by decide +kernel
theorem dX9_outcomes_30 : decode cX9_outcomes 30 = .ok (.iload_n 1, 1) := by decide +kernel
theorem dX9_outcomes_31 : decode cX9_outcomes 31 = .ok (.iaload, 1) := by decide +kernel
theorem dX9_outcomes_32 : decode cX9_outcomes 32 = .ok (.goto 5, 3) := by decide +kernel
theorem dX9_outcomes_35 : decode cX9_outcomes 35 = .ok (.bipush (-2), 2) := by decide +kernel
theorem dX9_outcomes_37 : decode cX9_outcomes 37 = .ok (.ireturn, 1) := by decide +kernel
theorem dX9_outcomes_4 : decode cX9_outcomes 4 = .ok (.ifCond .eq 12, 3) := by decide +kernel
theorem dX9_outcomes_7 : decode cX9_outcomes 7 = .ok (.iload_n 1, 1) := by decide +kernel
theorem dX9_outcomes_8 : decode cX9_outcomes 8 = .ok (.ifCond .lt 8, 3) := by decide +kernel
theorem dX9_schedule_0 : decode cX9_schedule 0 = .ok (.aload_n 0, 1) := by decide +kernel
theorem dX9_schedule_1 : decode cX9_schedule 1 = .ok (.iload_n 1, 1) := by decide +kernel
theorem dX9_schedule_10 : decode cX9_schedule 10 = .ok (.iload_n 1, 1) := by decide +kernel
theorem dX9_schedule_11 : decode cX9_schedule 11 = .ok (.aload_n 0, 1) := by decide +kernel
theorem dX9_schedule_12 : decode cX9_schedule 12 = .ok (.getfield 69, 3) := by decide +kernel
theorem dX9_schedule_15 : decode cX9_schedule 15 = .ok (.sipush 3000, 3) := by decide +kernel
theorem dX9_schedule_18 : decode cX9_schedule 18 = .ok (.iload_n 1, 1) := by decide +kernel
theorem dX9_schedule_19 : decode cX9_schedule 19 = .ok (.imul, 1) := by decide +kernel
theorem dX9_schedule_2 : decode cX9_schedule 2 = .ok (.iload_n 2, 1) := by decide +kernel
theorem dX9_schedule_20 : decode cX9_schedule 20 = .ok (.iload_n 2, 1) := by decide +kernel
theorem dX9_schedule_21 : decode cX9_schedule 21 = .ok (.iadd, 1) := by decide +kernel
theorem dX9_schedule_22 : decode cX9_schedule 22 = .ok (.iaload, 1) := by decide +kernel
theorem dX9_schedule_23 : decode cX9_schedule 23 = .ok (.iload_n 3, 1) := by decide +kernel
theorem dX9_schedule_24 : decode cX9_schedule 24 = .ok (.invokevirtual 353, 3) := by decide +kernel
theorem dX9_schedule_27 : decode cX9_schedule 27 = .ok (.goto 4, 3) := by decide +kernel
theorem dX9_schedule_3 : decode cX9_schedule 3 = .ok (.invokevirtual 350, 3) := by decide +kernel
theorem dX9_schedule_30 : decode cX9_schedule 30 = .ok (.iconst (-1), 1) := by decide +kernel
theorem dX9_schedule_31 : decode cX9_schedule 31 = .ok (.ireturn, 1) := by decide +kernel
theorem dX9_schedule_6 : decode cX9_schedule 6 = .ok (.ifCond .eq 24, 3) := by decide +kernel
theorem dX9_schedule_9 : decode cX9_schedule 9 = .ok (.aload_n 0, 1) := by decide +kernel