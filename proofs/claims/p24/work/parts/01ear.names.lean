set_option maxRecDepth 20000 in
theorem gL_limits_L_refused : GoodIn wsL_limits (va_wsS RL 97 yL_refused wsL_refused) := goodIn_app (goodIn_of _ (by decide +kernel)) ggL_limits_L_refused
theorem dL_limits_0 : decode cL_limits 0 = .ok (.new 14, 3) := by decide +kernel
theorem dL_limits_3 : decode cL_limits 3 = .ok (.dup, 1) := by decide +kernel
theorem dL_limits_4 : decode cL_limits 4 = .ok (.invokespecial 93, 3) := by decide +kernel
theorem dL_limits_7 : decode cL_limits 7 = .ok (.astore_n 0, 1) := by decide +kernel
theorem dL_limits_8 : decode cL_limits 8 = .ok (.iconst 0, 1) := by decide +kernel
theorem dL_limits_9 : decode cL_limits 9 = .ok (.istore_n 1, 1) := by decide +kernel
theorem dL_limits_10 : decode cL_limits 10 = .ok (.iload_n 1, 1) := by decide +kernel
theorem dL_limits_11 : decode cL_limits 11 = .ok (.bipush 8, 2) := by decide +kernel
theorem dL_limits_13 : decode cL_limits 13 = .ok (.if_icmp .ge 25, 3) := by decide +kernel
theorem dL_limits_16 : decode cL_limits 16 = .ok (.aload_n 0, 1) := by decide +kernel
theorem dL_limits_17 : decode cL_limits 17 = .ok (.bipush 24, 2) := by decide +kernel
theorem dL_limits_19 : decode cL_limits 19 = .ok (.iload_n 1, 1) := by decide +kernel
theorem dL_limits_20 : decode cL_limits 20 = .ok (.isub, 1) := by decide +kernel
theorem dL_limits_21 : decode cL_limits 21 = .ok (.bipush 9, 2) := by decide +kernel
theorem dL_limits_23 : decode cL_limits 23 = .ok (.invokevirtual 31, 3) := by decide +kernel
theorem dL_limits_26 : decode cL_limits 26 = .ok (.iload_n 1, 1) := by decide +kernel
theorem dL_limits_27 : decode cL_limits 27 = .ok (.if_icmp .eq 5, 3) := by decide +kernel
theorem dL_limits_30 : decode cL_limits 30 = .ok (.iconst 0, 1) := by decide +kernel
theorem dL_limits_31 : decode cL_limits 31 = .ok (.ireturn, 1) := by decide +kernel
theorem dL_limits_32 : decode cL_limits 32 = .ok (.iinc 1 1, 3) := by decide +kernel
theorem dL_limits_35 : decode cL_limits 35 = .ok (.goto (-25), 3) := by decide +kernel
theorem dL_limits_38 : decode cL_limits 38 = .ok (.aload_n 0, 1) := by decide +kernel
theorem dL_limits_39 : decode cL_limits 39 = .ok (.iconst 2, 1) := by decide +kernel
theorem dL_limits_40 : decode cL_limits 40 = .ok (.iconst 0, 1) := by decide +kernel
theorem dL_limits_41 : decode cL_limits 41 = .ok (.invokevirtual 31, 3) := by decide +kernel
theorem dL_limits_44 : decode cL_limits 44 = .ok (.bipush (-4), 2) := by decide +kernel
theorem dL_limits_46 : decode cL_limits 46 = .ok (.if_icmp .ne 208, 3) := by decide +kernel
theorem dL_limits_49 : decode cL_limits 49 = .ok (.aload_n 0, 1) := by decide +kernel
theorem dL_limits_50 : decode cL_limits 50 = .ok (.iconst 1, 1) := by decide +kernel
theorem dL_limits_51 : decode cL_limits 51 = .ok (.iconst 0, 1) := by decide +kernel
theorem dL_limits_52 : decode cL_limits 52 = .ok (.invokevirtual 31, 3) := by decide +kernel
theorem dL_limits_55 : decode cL_limits 55 = .ok (.bipush (-2), 2) := by decide +kernel
theorem dL_limits_57 : decode cL_limits 57 = .ok (.if_icmp .ne 197, 3) := by decide +kernel
theorem dL_limits_60 : decode cL_limits 60 = .ok (.aload_n 0, 1) := by decide +kernel
theorem dL_limits_61 : decode cL_limits 61 = .ok (.iconst 0, 1) := by decide +kernel
theorem dL_limits_62 : decode cL_limits 62 = .ok (.iconst 1, 1) := by decide +kernel
theorem dL_limits_63 : decode cL_limits 63 = .ok (.bipush 23, 2) := by decide +kernel
theorem dL_limits_65 : decode cL_limits 65 = .ok (.bipush 30, 2) := by decide +kernel
theorem dL_limits_67 : decode cL_limits 67 = .ok (.iconst 0, 1) := by decide +kernel
theorem dL_limits_68 : decode cL_limits 68 = .ok (.invokevirtual 52, 3) := by decide +kernel
