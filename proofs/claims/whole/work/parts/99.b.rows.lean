/-! ===== the text's methods: rows by wip/whole/gen99b.py ===== -/
theorem dA_0 : decode prog_23_method_79_code 0 = .ok (.aload_n 0, 1) := by decide +kernel
theorem dA_1 : decode prog_23_method_79_code 1 = .ok (.iload_n 1, 1) := by decide +kernel
theorem dA_2 : decode prog_23_method_79_code 2 = .ok (.iconst 0, 1) := by decide +kernel
theorem dA_3 : decode prog_23_method_79_code 3 = .ok (.invokevirtual 633, 3) := by decide +kernel
theorem dA_6 : decode prog_23_method_79_code 6 = .ok (.ireturn, 1) := by decide +kernel
theorem dB_0 : decode prog_23_method_80_code 0 = .ok (.aload_n 0, 1) := by decide +kernel
theorem dB_1 : decode prog_23_method_80_code 1 = .ok (.invokevirtual 492, 3) := by decide +kernel
theorem dB_4 : decode prog_23_method_80_code 4 = .ok (.ifCond .eq 19, 3) := by decide +kernel
theorem dB_7 : decode prog_23_method_80_code 7 = .ok (.aload_n 0, 1) := by decide +kernel
theorem dB_8 : decode prog_23_method_80_code 8 = .ok (.getfield 9, 3) := by decide +kernel
theorem dB_11 : decode prog_23_method_80_code 11 = .ok (.iload_n 1, 1) := by decide +kernel
theorem dB_12 : decode prog_23_method_80_code 12 = .ok (.iload_n 2, 1) := by decide +kernel
theorem dB_13 : decode prog_23_method_80_code 13 = .ok (.aload_n 0, 1) := by decide +kernel
theorem dB_14 : decode prog_23_method_80_code 14 = .ok (.invokevirtual 505, 3) := by decide +kernel
theorem dB_17 : decode prog_23_method_80_code 17 = .ok (.invokestatic 637, 3) := by decide +kernel
theorem dB_20 : decode prog_23_method_80_code 20 = .ok (.goto 16, 3) := by decide +kernel
theorem dB_23 : decode prog_23_method_80_code 23 = .ok (.aload_n 0, 1) := by decide +kernel
theorem dB_24 : decode prog_23_method_80_code 24 = .ok (.getfield 9, 3) := by decide +kernel
theorem dB_27 : decode prog_23_method_80_code 27 = .ok (.iload_n 1, 1) := by decide +kernel
theorem dB_28 : decode prog_23_method_80_code 28 = .ok (.iload_n 2, 1) := by decide +kernel
theorem dB_29 : decode prog_23_method_80_code 29 = .ok (.aload_n 0, 1) := by decide +kernel
theorem dB_30 : decode prog_23_method_80_code 30 = .ok (.invokevirtual 505, 3) := by decide +kernel
theorem dB_33 : decode prog_23_method_80_code 33 = .ok (.invokestatic 640, 3) := by decide +kernel
theorem dB_36 : decode prog_23_method_80_code 36 = .ok (.ireturn, 1) := by decide +kernel
theorem dC_0 : decode prog_23_method_154_code 0 = .ok (.getstatic 38, 3) := by decide +kernel
theorem dC_3 : decode prog_23_method_154_code 3 = .ok (.ifCond .eq 14, 3) := by decide +kernel
theorem dC_6 : decode prog_23_method_154_code 6 = .ok (.aload_n 0, 1) := by decide +kernel
theorem dC_7 : decode prog_23_method_154_code 7 = .ok (.getfield 15, 3) := by decide +kernel
theorem dC_10 : decode prog_23_method_154_code 10 = .ok (.ifCond .ne 7, 3) := by decide +kernel
theorem dC_13 : decode prog_23_method_154_code 13 = .ok (.iconst 1, 1) := by decide +kernel
theorem dC_14 : decode prog_23_method_154_code 14 = .ok (.goto 4, 3) := by decide +kernel
theorem dC_17 : decode prog_23_method_154_code 17 = .ok (.iconst 0, 1) := by decide +kernel
theorem dC_18 : decode prog_23_method_154_code 18 = .ok (.ireturn, 1) := by decide +kernel
theorem dD_0 : decode prog_23_method_54_code 0 = .ok (.aload_n 0, 1) := by decide +kernel
theorem dD_1 : decode prog_23_method_54_code 1 = .ok (.getfield 9, 3) := by decide +kernel
theorem dD_4 : decode prog_23_method_54_code 4 = .ok (.arraylength, 1) := by decide +kernel
theorem dD_5 : decode prog_23_method_54_code 5 = .ok (.aload_n 0, 1) := by decide +kernel
theorem dD_6 : decode prog_23_method_54_code 6 = .ok (.invokevirtual 335, 3) := by decide +kernel
theorem dD_9 : decode prog_23_method_54_code 9 = .ok (.ishr, 1) := by decide +kernel
theorem dD_10 : decode prog_23_method_54_code 10 = .ok (.ireturn, 1) := by decide +kernel
theorem dE_0 : decode prog_23_method_152_code 0 = .ok (.getstatic 38, 3) := by decide +kernel
theorem dE_3 : decode prog_23_method_152_code 3 = .ok (.ifCond .eq 10, 3) := by decide +kernel
theorem dE_6 : decode prog_23_method_152_code 6 = .ok (.aload_n 0, 1) := by decide +kernel
theorem dE_7 : decode prog_23_method_152_code 7 = .ok (.getfield 15, 3) := by decide +kernel
theorem dE_10 : decode prog_23_method_152_code 10 = .ok (.goto 4, 3) := by decide +kernel
theorem dE_13 : decode prog_23_method_152_code 13 = .ok (.iconst 1, 1) := by decide +kernel
theorem dE_14 : decode prog_23_method_152_code 14 = .ok (.ireturn, 1) := by decide +kernel
theorem dF_0 : decode prog_24_method_22_code 0 = .ok (.iload_n 1, 1) := by decide +kernel
theorem dF_1 : decode prog_24_method_22_code 1 = .ok (.invokestatic 88, 3) := by decide +kernel
theorem dF_4 : decode prog_24_method_22_code 4 = .ok (.ifCond .ne 5, 3) := by decide +kernel
theorem dF_7 : decode prog_24_method_22_code 7 = .ok (.iconst (-1), 1) := by decide +kernel
theorem dF_8 : decode prog_24_method_22_code 8 = .ok (.ireturn, 1) := by decide +kernel
theorem dF_9 : decode prog_24_method_22_code 9 = .ok (.iload_n 2, 1) := by decide +kernel
theorem dF_10 : decode prog_24_method_22_code 10 = .ok (.iconst 0, 1) := by decide +kernel
theorem dF_11 : decode prog_24_method_22_code 11 = .ok (.invokestatic 92, 3) := by decide +kernel
theorem dF_14 : decode prog_24_method_22_code 14 = .ok (.istore_n 2, 1) := by decide +kernel
theorem dF_15 : decode prog_24_method_22_code 15 = .ok (.iload_n 3, 1) := by decide +kernel
theorem dF_16 : decode prog_24_method_22_code 16 = .ok (.aload_n 0, 1) := by decide +kernel
theorem dF_17 : decode prog_24_method_22_code 17 = .ok (.arraylength, 1) := by decide +kernel
theorem dF_18 : decode prog_24_method_22_code 18 = .ok (.invokestatic 38, 3) := by decide +kernel
theorem dF_21 : decode prog_24_method_22_code 21 = .ok (.istore_n 3, 1) := by decide +kernel
theorem dF_22 : decode prog_24_method_22_code 22 = .ok (.iload_n 2, 1) := by decide +kernel
theorem dF_23 : decode prog_24_method_22_code 23 = .ok (.iload_n 3, 1) := by decide +kernel
theorem dF_24 : decode prog_24_method_22_code 24 = .ok (.if_icmp .lt 5, 3) := by decide +kernel
theorem dF_27 : decode prog_24_method_22_code 27 = .ok (.iconst (-1), 1) := by decide +kernel
theorem dF_28 : decode prog_24_method_22_code 28 = .ok (.ireturn, 1) := by decide +kernel
theorem dF_29 : decode prog_24_method_22_code 29 = .ok (.aload_n 0, 1) := by decide +kernel
theorem dF_30 : decode prog_24_method_22_code 30 = .ok (.iload_n 1, 1) := by decide +kernel
theorem dF_31 : decode prog_24_method_22_code 31 = .ok (.iload_n 2, 1) := by decide +kernel
theorem dF_32 : decode prog_24_method_22_code 32 = .ok (.iload_n 3, 1) := by decide +kernel
theorem dF_33 : decode prog_24_method_22_code 33 = .ok (.invokestatic 95, 3) := by decide +kernel
theorem dF_36 : decode prog_24_method_22_code 36 = .ok (.ireturn, 1) := by decide +kernel
theorem dG_0 : decode prog_24_method_4_code 0 = .ok (.iload_n 0, 1) := by decide +kernel
theorem dG_1 : decode prog_24_method_4_code 1 = .ok (.ifCond .lt 14, 3) := by decide +kernel
theorem dG_4 : decode prog_24_method_4_code 4 = .ok (.iload_n 0, 1) := by decide +kernel
theorem dG_5 : decode prog_24_method_4_code 5 = .ok (.sipush 255, 3) := by decide +kernel
theorem dG_8 : decode prog_24_method_4_code 8 = .ok (.if_icmp .gt 7, 3) := by decide +kernel
theorem dG_11 : decode prog_24_method_4_code 11 = .ok (.iconst 1, 1) := by decide +kernel
theorem dG_12 : decode prog_24_method_4_code 12 = .ok (.goto 4, 3) := by decide +kernel
theorem dG_15 : decode prog_24_method_4_code 15 = .ok (.iconst 0, 1) := by decide +kernel
theorem dG_16 : decode prog_24_method_4_code 16 = .ok (.ireturn, 1) := by decide +kernel
theorem dH_0 : decode prog_24_method_23_code 0 = .ok (.iload_n 1, 1) := by decide +kernel
theorem dH_1 : decode prog_24_method_23_code 1 = .ok (.i2b, 1) := by decide +kernel
theorem dH_2 : decode prog_24_method_23_code 2 = .ok (.istore 4, 2) := by decide +kernel
theorem dH_4 : decode prog_24_method_23_code 4 = .ok (.iload_n 2, 1) := by decide +kernel
theorem dH_5 : decode prog_24_method_23_code 5 = .ok (.istore 5, 2) := by decide +kernel
theorem dH_7 : decode prog_24_method_23_code 7 = .ok (.iload 5, 2) := by decide +kernel
theorem dH_9 : decode prog_24_method_23_code 9 = .ok (.iload_n 3, 1) := by decide +kernel
theorem dH_10 : decode prog_24_method_23_code 10 = .ok (.if_icmp .ge 21, 3) := by decide +kernel
theorem dH_13 : decode prog_24_method_23_code 13 = .ok (.aload_n 0, 1) := by decide +kernel
theorem dH_14 : decode prog_24_method_23_code 14 = .ok (.iload 5, 2) := by decide +kernel
theorem dH_16 : decode prog_24_method_23_code 16 = .ok (.baload, 1) := by decide +kernel
theorem dH_17 : decode prog_24_method_23_code 17 = .ok (.iload 4, 2) := by decide +kernel
theorem dH_19 : decode prog_24_method_23_code 19 = .ok (.if_icmp .ne 6, 3) := by decide +kernel
theorem dH_22 : decode prog_24_method_23_code 22 = .ok (.iload 5, 2) := by decide +kernel
theorem dH_24 : decode prog_24_method_23_code 24 = .ok (.ireturn, 1) := by decide +kernel
theorem dH_25 : decode prog_24_method_23_code 25 = .ok (.iinc 5 1, 3) := by decide +kernel
theorem dH_28 : decode prog_24_method_23_code 28 = .ok (.goto (-21), 3) := by decide +kernel
theorem dH_31 : decode prog_24_method_23_code 31 = .ok (.iconst (-1), 1) := by decide +kernel
theorem dH_32 : decode prog_24_method_23_code 32 = .ok (.ireturn, 1) := by decide +kernel
theorem dI_0 : decode prog_5_method_2_code 0 = .ok (.ldc 20, 2) := by decide +kernel
theorem dI_2 : decode prog_5_method_2_code 2 = .ok (.iload_n 0, 1) := by decide +kernel
theorem dI_3 : decode prog_5_method_2_code 3 = .ok (.i2c, 1) := by decide +kernel
theorem dI_4 : decode prog_5_method_2_code 4 = .ok (.invokevirtual 22, 3) := by decide +kernel
theorem dI_7 : decode prog_5_method_2_code 7 = .ok (.ifCond .lt 7, 3) := by decide +kernel
theorem dI_10 : decode prog_5_method_2_code 10 = .ok (.iconst 1, 1) := by decide +kernel
theorem dI_11 : decode prog_5_method_2_code 11 = .ok (.goto 4, 3) := by decide +kernel
theorem dI_14 : decode prog_5_method_2_code 14 = .ok (.iconst 0, 1) := by decide +kernel
theorem dI_15 : decode prog_5_method_2_code 15 = .ok (.ireturn, 1) := by decide +kernel
