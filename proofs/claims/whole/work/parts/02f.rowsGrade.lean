theorem dX3_gradeOfHiss_0 : decode cX3_gradeOfHiss 0 = .ok (.iload_n 0, 1) := by decide +kernel
theorem dX3_gradeOfHiss_1 : decode cX3_gradeOfHiss 1 = .ok (.ifCond .gt 5, 3) := by decide +kernel
theorem dX3_gradeOfHiss_4 : decode cX3_gradeOfHiss 4 = .ok (.iconst 0, 1) := by decide +kernel
theorem dX3_gradeOfHiss_5 : decode cX3_gradeOfHiss 5 = .ok (.ireturn, 1) := by decide +kernel
theorem dX3_gradeOfHiss_6 : decode cX3_gradeOfHiss 6 = .ok (.iload_n 0, 1) := by decide +kernel
theorem dX3_gradeOfHiss_7 : decode cX3_gradeOfHiss 7 = .ok (.iconst 5, 1) := by decide +kernel
theorem dX3_gradeOfHiss_8 : decode cX3_gradeOfHiss 8 = .ok (.if_icmp .gt 5, 3) := by decide +kernel
theorem dX3_gradeOfHiss_11 : decode cX3_gradeOfHiss 11 = .ok (.iconst 1, 1) := by decide +kernel
theorem dX3_gradeOfHiss_12 : decode cX3_gradeOfHiss 12 = .ok (.ireturn, 1) := by decide +kernel
theorem dX3_gradeOfHiss_13 : decode cX3_gradeOfHiss 13 = .ok (.iload_n 0, 1) := by decide +kernel
theorem dX3_gradeOfHiss_14 : decode cX3_gradeOfHiss 14 = .ok (.bipush 10, 2) := by decide +kernel
theorem dX3_gradeOfHiss_16 : decode cX3_gradeOfHiss 16 = .ok (.if_icmp .gt 5, 3) := by decide +kernel
theorem dX3_gradeOfHiss_19 : decode cX3_gradeOfHiss 19 = .ok (.iconst 2, 1) := by decide +kernel
theorem dX3_gradeOfHiss_20 : decode cX3_gradeOfHiss 20 = .ok (.ireturn, 1) := by decide +kernel
theorem dX3_gradeOfHiss_21 : decode cX3_gradeOfHiss 21 = .ok (.iload_n 0, 1) := by decide +kernel
theorem dX3_gradeOfHiss_22 : decode cX3_gradeOfHiss 22 = .ok (.bipush 20, 2) := by decide +kernel
theorem dX3_gradeOfHiss_24 : decode cX3_gradeOfHiss 24 = .ok (.if_icmp .gt 7, 3) := by decide +kernel
theorem dX3_gradeOfHiss_27 : decode cX3_gradeOfHiss 27 = .ok (.iconst 3, 1) := by decide +kernel
theorem dX3_gradeOfHiss_28 : decode cX3_gradeOfHiss 28 = .ok (.goto 4, 3) := by decide +kernel
theorem dX3_gradeOfHiss_31 : decode cX3_gradeOfHiss 31 = .ok (.iconst 4, 1) := by decide +kernel
theorem dX3_gradeOfHiss_32 : decode cX3_gradeOfHiss 32 = .ok (.ireturn, 1) := by decide +kernel
