theorem dL_isTakenBack_26 : decode cL_isTakenBack 26 = .ok (.if_icmp .gt 27, 3) := by decide +kernel
theorem dL_isTakenBack_29 : decode cL_isTakenBack 29 = .ok (.aload_n 0, 1) := by decide +kernel
theorem dL_isTakenBack_30 : decode cL_isTakenBack 30 = .ok (.invokestatic 88, 3) := by decide +kernel
theorem dL_isTakenBack_33 : decode cL_isTakenBack 33 = .ok (.aload_n 1, 1) := by decide +kernel
theorem dL_isTakenBack_34 : decode cL_isTakenBack 34 = .ok (.iload_n 2, 1) := by decide +kernel
theorem dL_isTakenBack_35 : decode cL_isTakenBack 35 = .ok (.iload_n 3, 1) := by decide +kernel
theorem dL_isTakenBack_36 : decode cL_isTakenBack 36 = .ok (.isub, 1) := by decide +kernel
theorem dL_isTakenBack_37 : decode cL_isTakenBack 37 = .ok (.laload, 1) := by decide +kernel
theorem dL_isTakenBack_38 : decode cL_isTakenBack 38 = .ok (.lcmp, 1) := by decide +kernel
theorem dL_isTakenBack_39 : decode cL_isTakenBack 39 = .ok (.ifCond .ne 14, 3) := by decide +kernel
theorem dL_isTakenBack_42 : decode cL_isTakenBack 42 = .ok (.aload_n 0, 1) := by decide +kernel
theorem dL_isTakenBack_43 : decode cL_isTakenBack 43 = .ok (.invokevirtual 97, 3) := by decide +kernel
theorem dL_isTakenBack_46 : decode cL_isTakenBack 46 = .ok (.iload 4, 2) := by decide +kernel
theorem dL_isTakenBack_48 : decode cL_isTakenBack 48 = .ok (.iconst 1, 1) := by decide +kernel
theorem dL_isTakenBack_49 : decode cL_isTakenBack 49 = .ok (.isub, 1) := by decide +kernel
theorem dL_isTakenBack_50 : decode cL_isTakenBack 50 = .ok (.if_icmp .eq 5, 3) := by decide +kernel
theorem dL_isTakenBack_53 : decode cL_isTakenBack 53 = .ok (.iconst 0, 1) := by decide +kernel
theorem dL_isTakenBack_54 : decode cL_isTakenBack 54 = .ok (.ireturn, 1) := by decide +kernel
theorem dL_isTakenBack_55 : decode cL_isTakenBack 55 = .ok (.iinc 3 1, 3) := by decide +kernel
theorem dL_isTakenBack_58 : decode cL_isTakenBack 58 = .ok (.goto (-56), 3) := by decide +kernel
theorem dL_isTakenBack_61 : decode cL_isTakenBack 61 = .ok (.aload_n 0, 1) := by decide +kernel
theorem dL_isTakenBack_62 : decode cL_isTakenBack 62 = .ok (.bipush 10, 2) := by decide +kernel
theorem dL_isTakenBack_64 : decode cL_isTakenBack 64 = .ok (.invokevirtual 11, 3) := by decide +kernel
theorem dL_isTakenBack_67 : decode cL_isTakenBack 67 = .ok (.ifCond .le 12, 3) := by decide +kernel
theorem dL_isTakenBack_70 : decode cL_isTakenBack 70 = .ok (.aload_n 0, 1) := by decide +kernel
theorem dL_isTakenBack_71 : decode cL_isTakenBack 71 = .ok (.invokevirtual 97, 3) := by decide +kernel
theorem dL_isTakenBack_74 : decode cL_isTakenBack 74 = .ok (.ifCond .ge (-13), 3) := by decide +kernel
theorem dL_isTakenBack_77 : decode cL_isTakenBack 77 = .ok (.iconst 0, 1) := by decide +kernel
theorem dL_isTakenBack_78 : decode cL_isTakenBack 78 = .ok (.ireturn, 1) := by decide +kernel
theorem dL_isTakenBack_79 : decode cL_isTakenBack 79 = .ok (.iconst 1, 1) := by decide +kernel
theorem dL_isTakenBack_80 : decode cL_isTakenBack 80 = .ok (.ireturn, 1) := by decide +kernel
