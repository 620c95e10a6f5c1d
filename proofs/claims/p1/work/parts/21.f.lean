theorem d_Fr_change_0 : decode M_Fr_change.2.1 0 = .ok (.iload_n 1, 1) := by decide +kernel
theorem d_Fr_change_1 : decode M_Fr_change.2.1 1 = .ok (.iconst 1, 1) := by decide +kernel
theorem d_Fr_change_2 : decode M_Fr_change.2.1 2 = .ok (.if_icmp .lt 21, 3) := by decide +kernel
theorem d_Fr_change_5 : decode M_Fr_change.2.1 5 = .ok (.iload_n 1, 1) := by decide +kernel
theorem d_Fr_change_6 : decode M_Fr_change.2.1 6 = .ok (.ldc 24, 2) := by decide +kernel
theorem d_Fr_change_8 : decode M_Fr_change.2.1 8 = .ok (.if_icmp .gt 15, 3) := by decide +kernel
theorem d_Fr_change_11 : decode M_Fr_change.2.1 11 = .ok (.iload_n 2, 1) := by decide +kernel
theorem d_Fr_change_12 : decode M_Fr_change.2.1 12 = .ok (.iconst 1, 1) := by decide +kernel
theorem d_Fr_change_13 : decode M_Fr_change.2.1 13 = .ok (.if_icmp .lt 10, 3) := by decide +kernel
theorem d_Fr_change_16 : decode M_Fr_change.2.1 16 = .ok (.iload_n 2, 1) := by decide +kernel
theorem d_Fr_change_17 : decode M_Fr_change.2.1 17 = .ok (.sipush 1001, 3) := by decide +kernel
theorem d_Fr_change_20 : decode M_Fr_change.2.1 20 = .ok (.if_icmp .le 5, 3) := by decide +kernel
theorem d_Fr_change_23 : decode M_Fr_change.2.1 23 = .ok (.iconst 0, 1) := by decide +kernel
theorem d_Fr_change_24 : decode M_Fr_change.2.1 24 = .ok (.ireturn, 1) := by decide +kernel
theorem d_Fr_change_25 : decode M_Fr_change.2.1 25 = .ok (.ldc2_w 25, 3) := by decide +kernel
theorem d_Fr_change_28 : decode M_Fr_change.2.1 28 = .ok (.iload_n 2, 1) := by decide +kernel
theorem d_Fr_change_29 : decode M_Fr_change.2.1 29 = .ok (.i2l, 1) := by decide +kernel
theorem d_Fr_change_30 : decode M_Fr_change.2.1 30 = .ok (.lmul, 1) := by decide +kernel
theorem d_Fr_change_31 : decode M_Fr_change.2.1 31 = .ok (.iload_n 1, 1) := by decide +kernel
theorem d_Fr_change_32 : decode M_Fr_change.2.1 32 = .ok (.i2l, 1) := by decide +kernel
theorem d_Fr_change_33 : decode M_Fr_change.2.1 33 = .ok (.lrem, 1) := by decide +kernel
theorem d_Fr_change_34 : decode M_Fr_change.2.1 34 = .ok (.lconst 0, 1) := by decide +kernel
theorem d_Fr_change_35 : decode M_Fr_change.2.1 35 = .ok (.lcmp, 1) := by decide +kernel
theorem d_Fr_change_36 : decode M_Fr_change.2.1 36 = .ok (.ifCond .eq 5, 3) := by decide +kernel
theorem d_Fr_change_39 : decode M_Fr_change.2.1 39 = .ok (.iconst 0, 1) := by decide +kernel
theorem d_Fr_change_40 : decode M_Fr_change.2.1 40 = .ok (.ireturn, 1) := by decide +kernel
theorem d_Fr_change_41 : decode M_Fr_change.2.1 41 = .ok (.iload_n 1, 1) := by decide +kernel
theorem d_Fr_change_42 : decode M_Fr_change.2.1 42 = .ok (.iload_n 2, 1) := by decide +kernel
theorem d_Fr_change_43 : decode M_Fr_change.2.1 43 = .ok (.if_icmp .lt 11, 3) := by decide +kernel
theorem d_Fr_change_46 : decode M_Fr_change.2.1 46 = .ok (.iload_n 1, 1) := by decide +kernel
theorem d_Fr_change_47 : decode M_Fr_change.2.1 47 = .ok (.bipush 60, 2) := by decide +kernel
theorem d_Fr_change_49 : decode M_Fr_change.2.1 49 = .ok (.iload_n 2, 1) := by decide +kernel
theorem d_Fr_change_50 : decode M_Fr_change.2.1 50 = .ok (.imul, 1) := by decide +kernel
theorem d_Fr_change_51 : decode M_Fr_change.2.1 51 = .ok (.if_icmp .le 5, 3) := by decide +kernel
theorem d_Fr_change_54 : decode M_Fr_change.2.1 54 = .ok (.iconst 0, 1) := by decide +kernel
theorem d_Fr_change_55 : decode M_Fr_change.2.1 55 = .ok (.ireturn, 1) := by decide +kernel
theorem d_Fr_change_56 : decode M_Fr_change.2.1 56 = .ok (.aload_n 0, 1) := by decide +kernel
theorem d_Fr_change_57 : decode M_Fr_change.2.1 57 = .ok (.iload_n 1, 1) := by decide +kernel
theorem d_Fr_change_58 : decode M_Fr_change.2.1 58 = .ok (.putfield 9, 3) := by decide +kernel
theorem d_Fr_change_61 : decode M_Fr_change.2.1 61 = .ok (.aload_n 0, 1) := by decide +kernel
theorem d_Fr_change_62 : decode M_Fr_change.2.1 62 = .ok (.iload_n 2, 1) := by decide +kernel
theorem d_Fr_change_63 : decode M_Fr_change.2.1 63 = .ok (.putfield 15, 3) := by decide +kernel
theorem d_Fr_change_66 : decode M_Fr_change.2.1 66 = .ok (.aload_n 0, 1) := by decide +kernel
theorem d_Fr_change_67 : decode M_Fr_change.2.1 67 = .ok (.ldc2_w 25, 3) := by decide +kernel
theorem d_Fr_change_70 : decode M_Fr_change.2.1 70 = .ok (.iload_n 2, 1) := by decide +kernel
theorem d_Fr_change_71 : decode M_Fr_change.2.1 71 = .ok (.i2l, 1) := by decide +kernel
theorem d_Fr_change_72 : decode M_Fr_change.2.1 72 = .ok (.lmul, 1) := by decide +kernel
theorem d_Fr_change_73 : decode M_Fr_change.2.1 73 = .ok (.iload_n 1, 1) := by decide +kernel
theorem d_Fr_change_74 : decode M_Fr_change.2.1 74 = .ok (.i2l, 1) := by decide +kernel
theorem d_Fr_change_75 : decode M_Fr_change.2.1 75 = .ok (.ldiv, 1) := by decide +kernel
theorem d_Fr_change_76 : decode M_Fr_change.2.1 76 = .ok (.putfield 20, 3) := by decide +kernel
theorem d_Fr_change_79 : decode M_Fr_change.2.1 79 = .ok (.iconst 1, 1) := by decide +kernel
theorem d_Fr_change_80 : decode M_Fr_change.2.1 80 = .ok (.ireturn, 1) := by decide +kernel
theorem d_CB_rate_0 : decode M_CB_rate.2.1 0 = .ok (.aload_n 0, 1) := by decide +kernel
theorem d_CB_rate_1 : decode M_CB_rate.2.1 1 = .ok (.getfield 19, 3) := by decide +kernel
theorem d_CB_rate_4 : decode M_CB_rate.2.1 4 = .ok (.iload_n 1, 1) := by decide +kernel
theorem d_CB_rate_5 : decode M_CB_rate.2.1 5 = .ok (.iload_n 2, 1) := by decide +kernel
theorem d_CB_rate_6 : decode M_CB_rate.2.1 6 = .ok (.invokevirtual 92, 3) := by decide +kernel
theorem d_CB_rate_9 : decode M_CB_rate.2.1 9 = .ok (.ireturn, 1) := by decide +kernel
theorem d_Mo_rate_0 : decode M_Mo_rate.2.1 0 = .ok (.iload_n 1, 1) := by decide +kernel
theorem d_Mo_rate_1 : decode M_Mo_rate.2.1 1 = .ok (.iconst 1, 1) := by decide +kernel
theorem d_Mo_rate_2 : decode M_Mo_rate.2.1 2 = .ok (.if_icmp .lt 48, 3) := by decide +kernel
theorem d_Mo_rate_5 : decode M_Mo_rate.2.1 5 = .ok (.iload_n 1, 1) := by decide +kernel
theorem d_Mo_rate_6 : decode M_Mo_rate.2.1 6 = .ok (.ldc 100, 2) := by decide +kernel
theorem d_Mo_rate_8 : decode M_Mo_rate.2.1 8 = .ok (.if_icmp .gt 42, 3) := by decide +kernel
theorem d_Mo_rate_11 : decode M_Mo_rate.2.1 11 = .ok (.iload_n 2, 1) := by decide +kernel
theorem d_Mo_rate_12 : decode M_Mo_rate.2.1 12 = .ok (.iconst 1, 1) := by decide +kernel
theorem d_Mo_rate_13 : decode M_Mo_rate.2.1 13 = .ok (.if_icmp .lt 37, 3) := by decide +kernel
theorem d_Mo_rate_16 : decode M_Mo_rate.2.1 16 = .ok (.iload_n 2, 1) := by decide +kernel
theorem d_Mo_rate_17 : decode M_Mo_rate.2.1 17 = .ok (.sipush 1001, 3) := by decide +kernel
theorem d_Mo_rate_20 : decode M_Mo_rate.2.1 20 = .ok (.if_icmp .gt 30, 3) := by decide +kernel
theorem d_Mo_rate_23 : decode M_Mo_rate.2.1 23 = .ok (.ldc2_w 86, 3) := by decide +kernel
theorem d_Mo_rate_26 : decode M_Mo_rate.2.1 26 = .ok (.iload_n 2, 1) := by decide +kernel
theorem d_Mo_rate_27 : decode M_Mo_rate.2.1 27 = .ok (.i2l, 1) := by decide +kernel
theorem d_Mo_rate_28 : decode M_Mo_rate.2.1 28 = .ok (.lmul, 1) := by decide +kernel
theorem d_Mo_rate_29 : decode M_Mo_rate.2.1 29 = .ok (.iload_n 1, 1) := by decide +kernel
theorem d_Mo_rate_30 : decode M_Mo_rate.2.1 30 = .ok (.i2l, 1) := by decide +kernel
theorem d_Mo_rate_31 : decode M_Mo_rate.2.1 31 = .ok (.lrem, 1) := by decide +kernel
theorem d_Mo_rate_32 : decode M_Mo_rate.2.1 32 = .ok (.lconst 0, 1) := by decide +kernel
theorem d_Mo_rate_33 : decode M_Mo_rate.2.1 33 = .ok (.lcmp, 1) := by decide +kernel
theorem d_Mo_rate_34 : decode M_Mo_rate.2.1 34 = .ok (.ifCond .ne 16, 3) := by decide +kernel
theorem d_Mo_rate_37 : decode M_Mo_rate.2.1 37 = .ok (.iload_n 1, 1) := by decide +kernel
theorem d_Mo_rate_38 : decode M_Mo_rate.2.1 38 = .ok (.iload_n 2, 1) := by decide +kernel
theorem d_Mo_rate_39 : decode M_Mo_rate.2.1 39 = .ok (.if_icmp .lt 11, 3) := by decide +kernel
theorem d_Mo_rate_42 : decode M_Mo_rate.2.1 42 = .ok (.iload_n 1, 1) := by decide +kernel
theorem d_Mo_rate_43 : decode M_Mo_rate.2.1 43 = .ok (.bipush 60, 2) := by decide +kernel
theorem d_Mo_rate_45 : decode M_Mo_rate.2.1 45 = .ok (.iload_n 2, 1) := by decide +kernel
theorem d_Mo_rate_46 : decode M_Mo_rate.2.1 46 = .ok (.imul, 1) := by decide +kernel
theorem d_Mo_rate_47 : decode M_Mo_rate.2.1 47 = .ok (.if_icmp .le 5, 3) := by decide +kernel
theorem d_Mo_rate_50 : decode M_Mo_rate.2.1 50 = .ok (.iconst 0, 1) := by decide +kernel
theorem d_Mo_rate_51 : decode M_Mo_rate.2.1 51 = .ok (.ireturn, 1) := by decide +kernel
theorem d_Mo_rate_52 : decode M_Mo_rate.2.1 52 = .ok (.aload_n 0, 1) := by decide +kernel
theorem d_Mo_rate_53 : decode M_Mo_rate.2.1 53 = .ok (.iload_n 1, 1) := by decide +kernel
theorem d_Mo_rate_54 : decode M_Mo_rate.2.1 54 = .ok (.putfield 13, 3) := by decide +kernel
theorem d_Mo_rate_57 : decode M_Mo_rate.2.1 57 = .ok (.aload_n 0, 1) := by decide +kernel
theorem d_Mo_rate_58 : decode M_Mo_rate.2.1 58 = .ok (.iload_n 2, 1) := by decide +kernel
theorem d_Mo_rate_59 : decode M_Mo_rate.2.1 59 = .ok (.putfield 17, 3) := by decide +kernel
theorem d_Mo_rate_62 : decode M_Mo_rate.2.1 62 = .ok (.iconst 1, 1) := by decide +kernel
theorem d_Mo_rate_63 : decode M_Mo_rate.2.1 63 = .ok (.ireturn, 1) := by decide +kernel
theorem d_Ru_change_0 : decode M_Ru_change.2.1 0 = .ok (.iload_n 1, 1) := by decide +kernel
theorem d_Ru_change_1 : decode M_Ru_change.2.1 1 = .ok (.ifCond .lt 20, 3) := by decide +kernel
theorem d_Ru_change_4 : decode M_Ru_change.2.1 4 = .ok (.iload_n 1, 1) := by decide +kernel
theorem d_Ru_change_5 : decode M_Ru_change.2.1 5 = .ok (.bipush 20, 2) := by decide +kernel
theorem d_Ru_change_7 : decode M_Ru_change.2.1 7 = .ok (.if_icmp .gt 14, 3) := by decide +kernel
theorem d_Ru_change_10 : decode M_Ru_change.2.1 10 = .ok (.iload_n 2, 1) := by decide +kernel
theorem d_Ru_change_11 : decode M_Ru_change.2.1 11 = .ok (.iconst 1, 1) := by decide +kernel
theorem d_Ru_change_12 : decode M_Ru_change.2.1 12 = .ok (.if_icmp .lt 9, 3) := by decide +kernel
theorem d_Ru_change_15 : decode M_Ru_change.2.1 15 = .ok (.iload_n 2, 1) := by decide +kernel
theorem d_Ru_change_16 : decode M_Ru_change.2.1 16 = .ok (.bipush 100, 2) := by decide +kernel
theorem d_Ru_change_18 : decode M_Ru_change.2.1 18 = .ok (.if_icmp .le 5, 3) := by decide +kernel
theorem d_Ru_change_21 : decode M_Ru_change.2.1 21 = .ok (.iconst 0, 1) := by decide +kernel
theorem d_Ru_change_22 : decode M_Ru_change.2.1 22 = .ok (.ireturn, 1) := by decide +kernel
theorem d_Ru_change_23 : decode M_Ru_change.2.1 23 = .ok (.iload_n 3, 1) := by decide +kernel
theorem d_Ru_change_24 : decode M_Ru_change.2.1 24 = .ok (.iload_n 2, 1) := by decide +kernel
theorem d_Ru_change_25 : decode M_Ru_change.2.1 25 = .ok (.if_icmp .lt 23, 3) := by decide +kernel
theorem d_Ru_change_28 : decode M_Ru_change.2.1 28 = .ok (.iload_n 3, 1) := by decide +kernel
theorem d_Ru_change_29 : decode M_Ru_change.2.1 29 = .ok (.sipush 400, 3) := by decide +kernel
theorem d_Ru_change_32 : decode M_Ru_change.2.1 32 = .ok (.if_icmp .gt 16, 3) := by decide +kernel
theorem d_Ru_change_35 : decode M_Ru_change.2.1 35 = .ok (.iload 4, 2) := by decide +kernel
theorem d_Ru_change_37 : decode M_Ru_change.2.1 37 = .ok (.iconst 1, 1) := by decide +kernel
theorem d_Ru_change_38 : decode M_Ru_change.2.1 38 = .ok (.if_icmp .lt 10, 3) := by decide +kernel
theorem d_Ru_change_41 : decode M_Ru_change.2.1 41 = .ok (.iload 4, 2) := by decide +kernel
theorem d_Ru_change_43 : decode M_Ru_change.2.1 43 = .ok (.bipush 60, 2) := by decide +kernel
theorem d_Ru_change_45 : decode M_Ru_change.2.1 45 = .ok (.if_icmp .le 5, 3) := by decide +kernel
theorem d_Ru_change_48 : decode M_Ru_change.2.1 48 = .ok (.iconst 0, 1) := by decide +kernel
theorem d_Ru_change_49 : decode M_Ru_change.2.1 49 = .ok (.ireturn, 1) := by decide +kernel
theorem d_Ru_change_50 : decode M_Ru_change.2.1 50 = .ok (.aload_n 0, 1) := by decide +kernel
theorem d_Ru_change_51 : decode M_Ru_change.2.1 51 = .ok (.iload_n 1, 1) := by decide +kernel
theorem d_Ru_change_52 : decode M_Ru_change.2.1 52 = .ok (.putfield 9, 3) := by decide +kernel
theorem d_Ru_change_55 : decode M_Ru_change.2.1 55 = .ok (.aload_n 0, 1) := by decide +kernel
theorem d_Ru_change_56 : decode M_Ru_change.2.1 56 = .ok (.iload_n 2, 1) := by decide +kernel
theorem d_Ru_change_57 : decode M_Ru_change.2.1 57 = .ok (.putfield 15, 3) := by decide +kernel
theorem d_Ru_change_60 : decode M_Ru_change.2.1 60 = .ok (.aload_n 0, 1) := by decide +kernel
theorem d_Ru_change_61 : decode M_Ru_change.2.1 61 = .ok (.iload_n 3, 1) := by decide +kernel
theorem d_Ru_change_62 : decode M_Ru_change.2.1 62 = .ok (.putfield 18, 3) := by decide +kernel
theorem d_Ru_change_65 : decode M_Ru_change.2.1 65 = .ok (.aload_n 0, 1) := by decide +kernel
theorem d_Ru_change_66 : decode M_Ru_change.2.1 66 = .ok (.iload 4, 2) := by decide +kernel
theorem d_Ru_change_68 : decode M_Ru_change.2.1 68 = .ok (.putfield 21, 3) := by decide +kernel
theorem d_Ru_change_71 : decode M_Ru_change.2.1 71 = .ok (.iconst 1, 1) := by decide +kernel
theorem d_Ru_change_72 : decode M_Ru_change.2.1 72 = .ok (.ireturn, 1) := by decide +kernel
theorem d_CB_rules_0 : decode M_CB_rules.2.1 0 = .ok (.aload_n 0, 1) := by decide +kernel
theorem d_CB_rules_1 : decode M_CB_rules.2.1 1 = .ok (.getfield 26, 3) := by decide +kernel
theorem d_CB_rules_4 : decode M_CB_rules.2.1 4 = .ok (.iload_n 1, 1) := by decide +kernel
theorem d_CB_rules_5 : decode M_CB_rules.2.1 5 = .ok (.iload_n 2, 1) := by decide +kernel
theorem d_CB_rules_6 : decode M_CB_rules.2.1 6 = .ok (.iload_n 3, 1) := by decide +kernel
theorem d_CB_rules_7 : decode M_CB_rules.2.1 7 = .ok (.iload 4, 2) := by decide +kernel
theorem d_CB_rules_9 : decode M_CB_rules.2.1 9 = .ok (.invokevirtual 151, 3) := by decide +kernel
theorem d_CB_rules_12 : decode M_CB_rules.2.1 12 = .ok (.ireturn, 1) := by decide +kernel
theorem d_Mo_rules_0 : decode M_Mo_rules.2.1 0 = .ok (.iload_n 1, 1) := by decide +kernel
theorem d_Mo_rules_1 : decode M_Mo_rules.2.1 1 = .ok (.ifCond .lt 45, 3) := by decide +kernel
theorem d_Mo_rules_4 : decode M_Mo_rules.2.1 4 = .ok (.iload_n 1, 1) := by decide +kernel
theorem d_Mo_rules_5 : decode M_Mo_rules.2.1 5 = .ok (.bipush 20, 2) := by decide +kernel
theorem d_Mo_rules_7 : decode M_Mo_rules.2.1 7 = .ok (.if_icmp .gt 39, 3) := by decide +kernel
theorem d_Mo_rules_10 : decode M_Mo_rules.2.1 10 = .ok (.iload_n 2, 1) := by decide +kernel
theorem d_Mo_rules_11 : decode M_Mo_rules.2.1 11 = .ok (.iconst 1, 1) := by decide +kernel
theorem d_Mo_rules_12 : decode M_Mo_rules.2.1 12 = .ok (.if_icmp .lt 34, 3) := by decide +kernel
theorem d_Mo_rules_15 : decode M_Mo_rules.2.1 15 = .ok (.iload_n 2, 1) := by decide +kernel
theorem d_Mo_rules_16 : decode M_Mo_rules.2.1 16 = .ok (.bipush 100, 2) := by decide +kernel
theorem d_Mo_rules_18 : decode M_Mo_rules.2.1 18 = .ok (.if_icmp .gt 28, 3) := by decide +kernel
theorem d_Mo_rules_21 : decode M_Mo_rules.2.1 21 = .ok (.iload_n 3, 1) := by decide +kernel
theorem d_Mo_rules_22 : decode M_Mo_rules.2.1 22 = .ok (.iload_n 2, 1) := by decide +kernel
theorem d_Mo_rules_23 : decode M_Mo_rules.2.1 23 = .ok (.if_icmp .lt 23, 3) := by decide +kernel
theorem d_Mo_rules_26 : decode M_Mo_rules.2.1 26 = .ok (.iload_n 3, 1) := by decide +kernel
theorem d_Mo_rules_27 : decode M_Mo_rules.2.1 27 = .ok (.sipush 400, 3) := by decide +kernel
theorem d_Mo_rules_30 : decode M_Mo_rules.2.1 30 = .ok (.if_icmp .gt 16, 3) := by decide +kernel
theorem d_Mo_rules_33 : decode M_Mo_rules.2.1 33 = .ok (.iload 4, 2) := by decide +kernel
theorem d_Mo_rules_35 : decode M_Mo_rules.2.1 35 = .ok (.iconst 1, 1) := by decide +kernel
theorem d_Mo_rules_36 : decode M_Mo_rules.2.1 36 = .ok (.if_icmp .lt 10, 3) := by decide +kernel
theorem d_Mo_rules_39 : decode M_Mo_rules.2.1 39 = .ok (.iload 4, 2) := by decide +kernel
theorem d_Mo_rules_41 : decode M_Mo_rules.2.1 41 = .ok (.bipush 60, 2) := by decide +kernel
theorem d_Mo_rules_43 : decode M_Mo_rules.2.1 43 = .ok (.if_icmp .le 5, 3) := by decide +kernel
theorem d_Mo_rules_46 : decode M_Mo_rules.2.1 46 = .ok (.iconst 0, 1) := by decide +kernel
theorem d_Mo_rules_47 : decode M_Mo_rules.2.1 47 = .ok (.ireturn, 1) := by decide +kernel
theorem d_Mo_rules_48 : decode M_Mo_rules.2.1 48 = .ok (.aload_n 0, 1) := by decide +kernel
theorem d_Mo_rules_49 : decode M_Mo_rules.2.1 49 = .ok (.iload_n 1, 1) := by decide +kernel
theorem d_Mo_rules_50 : decode M_Mo_rules.2.1 50 = .ok (.putfield 63, 3) := by decide +kernel
theorem d_Mo_rules_53 : decode M_Mo_rules.2.1 53 = .ok (.aload_n 0, 1) := by decide +kernel
theorem d_Mo_rules_54 : decode M_Mo_rules.2.1 54 = .ok (.iload_n 2, 1) := by decide +kernel
theorem d_Mo_rules_55 : decode M_Mo_rules.2.1 55 = .ok (.putfield 66, 3) := by decide +kernel
theorem d_Mo_rules_58 : decode M_Mo_rules.2.1 58 = .ok (.aload_n 0, 1) := by decide +kernel
theorem d_Mo_rules_59 : decode M_Mo_rules.2.1 59 = .ok (.iload_n 3, 1) := by decide +kernel
theorem d_Mo_rules_60 : decode M_Mo_rules.2.1 60 = .ok (.putfield 69, 3) := by decide +kernel
theorem d_Mo_rules_63 : decode M_Mo_rules.2.1 63 = .ok (.aload_n 0, 1) := by decide +kernel
theorem d_Mo_rules_64 : decode M_Mo_rules.2.1 64 = .ok (.iload 4, 2) := by decide +kernel
theorem d_Mo_rules_66 : decode M_Mo_rules.2.1 66 = .ok (.putfield 72, 3) := by decide +kernel
theorem d_Mo_rules_69 : decode M_Mo_rules.2.1 69 = .ok (.iconst 1, 1) := by decide +kernel
theorem d_Mo_rules_70 : decode M_Mo_rules.2.1 70 = .ok (.ireturn, 1) := by decide +kernel
theorem d_Ru_addShot_0 : decode M_Ru_addShot.2.1 0 = .ok (.iload_n 1, 1) := by decide +kernel
theorem d_Ru_addShot_1 : decode M_Ru_addShot.2.1 1 = .ok (.ifCond .lt 9, 3) := by decide +kernel
theorem d_Ru_addShot_4 : decode M_Ru_addShot.2.1 4 = .ok (.iload_n 1, 1) := by decide +kernel
theorem d_Ru_addShot_5 : decode M_Ru_addShot.2.1 5 = .ok (.ldc 28, 2) := by decide +kernel
theorem d_Ru_addShot_7 : decode M_Ru_addShot.2.1 7 = .ok (.if_icmp .le 6, 3) := by decide +kernel
theorem d_Ru_addShot_10 : decode M_Ru_addShot.2.1 10 = .ok (.bipush (-2), 2) := by decide +kernel
theorem d_Ru_addShot_12 : decode M_Ru_addShot.2.1 12 = .ok (.ireturn, 1) := by decide +kernel
theorem d_Ru_addShot_13 : decode M_Ru_addShot.2.1 13 = .ok (.iconst 0, 1) := by decide +kernel
theorem d_Ru_addShot_14 : decode M_Ru_addShot.2.1 14 = .ok (.istore_n 2, 1) := by decide +kernel
theorem d_Ru_addShot_15 : decode M_Ru_addShot.2.1 15 = .ok (.iload_n 2, 1) := by decide +kernel
theorem d_Ru_addShot_16 : decode M_Ru_addShot.2.1 16 = .ok (.aload_n 0, 1) := by decide +kernel
theorem d_Ru_addShot_17 : decode M_Ru_addShot.2.1 17 = .ok (.getfield 29, 3) := by decide +kernel
theorem d_Ru_addShot_20 : decode M_Ru_addShot.2.1 20 = .ok (.if_icmp .ge 24, 3) := by decide +kernel
theorem d_Ru_addShot_23 : decode M_Ru_addShot.2.1 23 = .ok (.aload_n 0, 1) := by decide +kernel
theorem d_Ru_addShot_24 : decode M_Ru_addShot.2.1 24 = .ok (.getfield 24, 3) := by decide +kernel
theorem d_Ru_addShot_27 : decode M_Ru_addShot.2.1 27 = .ok (.iload_n 2, 1) := by decide +kernel
theorem d_Ru_addShot_28 : decode M_Ru_addShot.2.1 28 = .ok (.iaload, 1) := by decide +kernel
theorem d_Ru_addShot_29 : decode M_Ru_addShot.2.1 29 = .ok (.iload_n 1, 1) := by decide +kernel
theorem d_Ru_addShot_30 : decode M_Ru_addShot.2.1 30 = .ok (.if_icmp .ne 8, 3) := by decide +kernel
theorem d_Ru_addShot_33 : decode M_Ru_addShot.2.1 33 = .ok (.aload_n 0, 1) := by decide +kernel
theorem d_Ru_addShot_34 : decode M_Ru_addShot.2.1 34 = .ok (.getfield 29, 3) := by decide +kernel
theorem d_Ru_addShot_37 : decode M_Ru_addShot.2.1 37 = .ok (.ireturn, 1) := by decide +kernel
theorem d_Ru_addShot_38 : decode M_Ru_addShot.2.1 38 = .ok (.iinc 2 1, 3) := by decide +kernel
theorem d_Ru_addShot_41 : decode M_Ru_addShot.2.1 41 = .ok (.goto (-26), 3) := by decide +kernel
theorem d_Ru_addShot_44 : decode M_Ru_addShot.2.1 44 = .ok (.aload_n 0, 1) := by decide +kernel
theorem d_Ru_addShot_45 : decode M_Ru_addShot.2.1 45 = .ok (.getfield 29, 3) := by decide +kernel
theorem d_Ru_addShot_48 : decode M_Ru_addShot.2.1 48 = .ok (.bipush 20, 2) := by decide +kernel
theorem d_Ru_addShot_50 : decode M_Ru_addShot.2.1 50 = .ok (.if_icmp .ne 6, 3) := by decide +kernel
theorem d_Ru_addShot_53 : decode M_Ru_addShot.2.1 53 = .ok (.bipush (-3), 2) := by decide +kernel
theorem d_Ru_addShot_55 : decode M_Ru_addShot.2.1 55 = .ok (.ireturn, 1) := by decide +kernel
theorem d_Ru_addShot_56 : decode M_Ru_addShot.2.1 56 = .ok (.aload_n 0, 1) := by decide +kernel
theorem d_Ru_addShot_57 : decode M_Ru_addShot.2.1 57 = .ok (.getfield 24, 3) := by decide +kernel
theorem d_Ru_addShot_60 : decode M_Ru_addShot.2.1 60 = .ok (.aload_n 0, 1) := by decide +kernel
theorem d_Ru_addShot_61 : decode M_Ru_addShot.2.1 61 = .ok (.dup, 1) := by decide +kernel
theorem d_Ru_addShot_62 : decode M_Ru_addShot.2.1 62 = .ok (.getfield 29, 3) := by decide +kernel
theorem d_Ru_addShot_65 : decode M_Ru_addShot.2.1 65 = .ok (.dup_x1, 1) := by decide +kernel
theorem d_Ru_addShot_66 : decode M_Ru_addShot.2.1 66 = .ok (.iconst 1, 1) := by decide +kernel
theorem d_Ru_addShot_67 : decode M_Ru_addShot.2.1 67 = .ok (.iadd, 1) := by decide +kernel
theorem d_Ru_addShot_68 : decode M_Ru_addShot.2.1 68 = .ok (.putfield 29, 3) := by decide +kernel
theorem d_Ru_addShot_71 : decode M_Ru_addShot.2.1 71 = .ok (.iload_n 1, 1) := by decide +kernel
theorem d_Ru_addShot_72 : decode M_Ru_addShot.2.1 72 = .ok (.iastore, 1) := by decide +kernel
theorem d_Ru_addShot_73 : decode M_Ru_addShot.2.1 73 = .ok (.aload_n 0, 1) := by decide +kernel
theorem d_Ru_addShot_74 : decode M_Ru_addShot.2.1 74 = .ok (.getfield 29, 3) := by decide +kernel
theorem d_Ru_addShot_77 : decode M_Ru_addShot.2.1 77 = .ok (.ireturn, 1) := by decide +kernel
theorem d_CB_shot_0 : decode M_CB_shot.2.1 0 = .ok (.aload_n 0, 1) := by decide +kernel
theorem d_CB_shot_1 : decode M_CB_shot.2.1 1 = .ok (.getfield 26, 3) := by decide +kernel
theorem d_CB_shot_4 : decode M_CB_shot.2.1 4 = .ok (.iload_n 1, 1) := by decide +kernel
theorem d_CB_shot_5 : decode M_CB_shot.2.1 5 = .ok (.invokevirtual 148, 3) := by decide +kernel
theorem d_CB_shot_8 : decode M_CB_shot.2.1 8 = .ok (.ireturn, 1) := by decide +kernel
theorem d_Mo_shot_0 : decode M_Mo_shot.2.1 0 = .ok (.iload_n 1, 1) := by decide +kernel
theorem d_Mo_shot_1 : decode M_Mo_shot.2.1 1 = .ok (.ifCond .lt 9, 3) := by decide +kernel
theorem d_Mo_shot_4 : decode M_Mo_shot.2.1 4 = .ok (.iload_n 1, 1) := by decide +kernel
theorem d_Mo_shot_5 : decode M_Mo_shot.2.1 5 = .ok (.ldc 226, 2) := by decide +kernel
theorem d_Mo_shot_7 : decode M_Mo_shot.2.1 7 = .ok (.if_icmp .le 6, 3) := by decide +kernel
theorem d_Mo_shot_10 : decode M_Mo_shot.2.1 10 = .ok (.bipush (-2), 2) := by decide +kernel
theorem d_Mo_shot_12 : decode M_Mo_shot.2.1 12 = .ok (.ireturn, 1) := by decide +kernel
theorem d_Mo_shot_13 : decode M_Mo_shot.2.1 13 = .ok (.iconst 0, 1) := by decide +kernel
theorem d_Mo_shot_14 : decode M_Mo_shot.2.1 14 = .ok (.istore_n 2, 1) := by decide +kernel
theorem d_Mo_shot_15 : decode M_Mo_shot.2.1 15 = .ok (.iconst 0, 1) := by decide +kernel
theorem d_Mo_shot_16 : decode M_Mo_shot.2.1 16 = .ok (.istore_n 3, 1) := by decide +kernel
theorem d_Mo_shot_17 : decode M_Mo_shot.2.1 17 = .ok (.iload_n 3, 1) := by decide +kernel
theorem d_Mo_shot_18 : decode M_Mo_shot.2.1 18 = .ok (.aload_n 0, 1) := by decide +kernel
theorem d_Mo_shot_19 : decode M_Mo_shot.2.1 19 = .ok (.getfield 227, 3) := by decide +kernel
theorem d_Mo_shot_22 : decode M_Mo_shot.2.1 22 = .ok (.if_icmp .ge 29, 3) := by decide +kernel
theorem d_Mo_shot_25 : decode M_Mo_shot.2.1 25 = .ok (.iload_n 2, 1) := by decide +kernel
theorem d_Mo_shot_26 : decode M_Mo_shot.2.1 26 = .ok (.ifCond .ne 13, 3) := by decide +kernel
theorem d_Mo_shot_29 : decode M_Mo_shot.2.1 29 = .ok (.aload_n 0, 1) := by decide +kernel
theorem d_Mo_shot_30 : decode M_Mo_shot.2.1 30 = .ok (.getfield 60, 3) := by decide +kernel
theorem d_Mo_shot_33 : decode M_Mo_shot.2.1 33 = .ok (.iload_n 3, 1) := by decide +kernel
theorem d_Mo_shot_34 : decode M_Mo_shot.2.1 34 = .ok (.iaload, 1) := by decide +kernel
theorem d_Mo_shot_35 : decode M_Mo_shot.2.1 35 = .ok (.iload_n 1, 1) := by decide +kernel
theorem d_Mo_shot_36 : decode M_Mo_shot.2.1 36 = .ok (.if_icmp .ne 7, 3) := by decide +kernel
theorem d_Mo_shot_39 : decode M_Mo_shot.2.1 39 = .ok (.iconst 1, 1) := by decide +kernel
theorem d_Mo_shot_40 : decode M_Mo_shot.2.1 40 = .ok (.goto 4, 3) := by decide +kernel
theorem d_Mo_shot_43 : decode M_Mo_shot.2.1 43 = .ok (.iconst 0, 1) := by decide +kernel
theorem d_Mo_shot_44 : decode M_Mo_shot.2.1 44 = .ok (.istore_n 2, 1) := by decide +kernel
theorem d_Mo_shot_45 : decode M_Mo_shot.2.1 45 = .ok (.iinc 3 1, 3) := by decide +kernel
theorem d_Mo_shot_48 : decode M_Mo_shot.2.1 48 = .ok (.goto (-31), 3) := by decide +kernel
theorem d_Mo_shot_51 : decode M_Mo_shot.2.1 51 = .ok (.iload_n 2, 1) := by decide +kernel
theorem d_Mo_shot_52 : decode M_Mo_shot.2.1 52 = .ok (.ifCond .ne 15, 3) := by decide +kernel
theorem d_Mo_shot_55 : decode M_Mo_shot.2.1 55 = .ok (.aload_n 0, 1) := by decide +kernel
theorem d_Mo_shot_56 : decode M_Mo_shot.2.1 56 = .ok (.getfield 227, 3) := by decide +kernel
theorem d_Mo_shot_59 : decode M_Mo_shot.2.1 59 = .ok (.bipush 20, 2) := by decide +kernel
theorem d_Mo_shot_61 : decode M_Mo_shot.2.1 61 = .ok (.if_icmp .ne 6, 3) := by decide +kernel
theorem d_Mo_shot_64 : decode M_Mo_shot.2.1 64 = .ok (.bipush (-3), 2) := by decide +kernel
theorem d_Mo_shot_66 : decode M_Mo_shot.2.1 66 = .ok (.ireturn, 1) := by decide +kernel
theorem d_Mo_shot_67 : decode M_Mo_shot.2.1 67 = .ok (.iload_n 2, 1) := by decide +kernel
theorem d_Mo_shot_68 : decode M_Mo_shot.2.1 68 = .ok (.ifCond .ne 23, 3) := by decide +kernel
theorem d_Mo_shot_71 : decode M_Mo_shot.2.1 71 = .ok (.aload_n 0, 1) := by decide +kernel
theorem d_Mo_shot_72 : decode M_Mo_shot.2.1 72 = .ok (.getfield 60, 3) := by decide +kernel
theorem d_Mo_shot_75 : decode M_Mo_shot.2.1 75 = .ok (.aload_n 0, 1) := by decide +kernel
theorem d_Mo_shot_76 : decode M_Mo_shot.2.1 76 = .ok (.getfield 227, 3) := by decide +kernel
theorem d_Mo_shot_79 : decode M_Mo_shot.2.1 79 = .ok (.iload_n 1, 1) := by decide +kernel
theorem d_Mo_shot_80 : decode M_Mo_shot.2.1 80 = .ok (.iastore, 1) := by decide +kernel
theorem d_Mo_shot_81 : decode M_Mo_shot.2.1 81 = .ok (.aload_n 0, 1) := by decide +kernel
theorem d_Mo_shot_82 : decode M_Mo_shot.2.1 82 = .ok (.dup, 1) := by decide +kernel
theorem d_Mo_shot_83 : decode M_Mo_shot.2.1 83 = .ok (.getfield 227, 3) := by decide +kernel
theorem d_Mo_shot_86 : decode M_Mo_shot.2.1 86 = .ok (.iconst 1, 1) := by decide +kernel
theorem d_Mo_shot_87 : decode M_Mo_shot.2.1 87 = .ok (.iadd, 1) := by decide +kernel
theorem d_Mo_shot_88 : decode M_Mo_shot.2.1 88 = .ok (.putfield 227, 3) := by decide +kernel
theorem d_Mo_shot_91 : decode M_Mo_shot.2.1 91 = .ok (.aload_n 0, 1) := by decide +kernel
theorem d_Mo_shot_92 : decode M_Mo_shot.2.1 92 = .ok (.getfield 227, 3) := by decide +kernel
theorem d_Mo_shot_95 : decode M_Mo_shot.2.1 95 = .ok (.ireturn, 1) := by decide +kernel
theorem d_Fr_holds_0 : decode M_Fr_holds.2.1 0 = .ok (.iload_n 1, 1) := by decide +kernel
theorem d_Fr_holds_1 : decode M_Fr_holds.2.1 1 = .ok (.ifCond .lt 21, 3) := by decide +kernel
theorem d_Fr_holds_4 : decode M_Fr_holds.2.1 4 = .ok (.iload_n 1, 1) := by decide +kernel
theorem d_Fr_holds_5 : decode M_Fr_holds.2.1 5 = .ok (.i2l, 1) := by decide +kernel
theorem d_Fr_holds_6 : decode M_Fr_holds.2.1 6 = .ok (.aload_n 0, 1) := by decide +kernel
theorem d_Fr_holds_7 : decode M_Fr_holds.2.1 7 = .ok (.getfield 20, 3) := by decide +kernel
theorem d_Fr_holds_10 : decode M_Fr_holds.2.1 10 = .ok (.lmul, 1) := by decide +kernel
theorem d_Fr_holds_11 : decode M_Fr_holds.2.1 11 = .ok (.ldc2_w 27, 3) := by decide +kernel
theorem d_Fr_holds_14 : decode M_Fr_holds.2.1 14 = .ok (.lcmp, 1) := by decide +kernel
theorem d_Fr_holds_15 : decode M_Fr_holds.2.1 15 = .ok (.ifCond .gt 7, 3) := by decide +kernel
theorem d_Fr_holds_18 : decode M_Fr_holds.2.1 18 = .ok (.iconst 1, 1) := by decide +kernel
theorem d_Fr_holds_19 : decode M_Fr_holds.2.1 19 = .ok (.goto 4, 3) := by decide +kernel
theorem d_Fr_holds_22 : decode M_Fr_holds.2.1 22 = .ok (.iconst 0, 1) := by decide +kernel
theorem d_Fr_holds_23 : decode M_Fr_holds.2.1 23 = .ok (.ireturn, 1) := by decide +kernel
def rOK (a b : Int) : Prop := 1 ≤ a ∧ a ≤ 120000 ∧ 1 ≤ b ∧ b ≤ 1001 ∧ (705600000 * b) % a = 0 ∧ b ≤ a ∧ a ≤ 60 * b
def uOK (g l m s : Int) : Prop := 0 ≤ g ∧ g ≤ 20 ∧ 1 ≤ l ∧ l ≤ 100 ∧ l ≤ m ∧ m ≤ 400 ∧ 1 ≤ s ∧ s ≤ 60
def holdZ (t f : Int) : Int := if 0 ≤ f ∧ f * t ≤ 2540160000000 then 1 else 0
def shHas (S : Nat → Int) (n : Nat) (f : Int) : Prop := ∃ k, k < n ∧ S k = f
noncomputable def shR (f : Int) (n : Nat) (S : Nat → Int) : Int × Nat × (Nat → Int) := if f < 0 ∨ 216000 < f then (-2, n, S) else @ite _ (shHas S n f) (Classical.propDecidable _) ((n : Int), n, S) (if n = 20 then (-3, n, S) else ((n : Int) + 1, n + 1, zup S n f))
theorem shR_bad {f : Int} {n : Nat} {S : Nat → Int} (h : f < 0 ∨ 216000 < f) : shR f n S = (-2, n, S) := if_pos h
theorem shR_has {f : Int} {n : Nat} {S : Nat → Int} (h : ¬ (f < 0 ∨ 216000 < f)) (h2 : shHas S n f) : shR f n S = ((n : Int), n, S) := (if_neg h).trans (if_pos h2)
theorem shR_full {f : Int} {n : Nat} {S : Nat → Int} (h : ¬ (f < 0 ∨ 216000 < f)) (h2 : ¬ shHas S n f) (h3 : n = 20) : shR f n S = (-3, n, S) := (if_neg h).trans ((if_neg h2).trans (if_pos h3))
theorem shR_new {f : Int} {n : Nat} {S : Nat → Int} (h : ¬ (f < 0 ∨ 216000 < f)) (h2 : ¬ shHas S n f) (h3 : ¬ n = 20) : shR f n S = ((n : Int) + 1, n + 1, zup S n f) := (if_neg h).trans ((if_neg h2).trans (if_neg h3))
theorem shHas_no {S : Nat → Int} {n : Nat} {f : Int} (h : ∀ k, k < n → S k ≠ f) : ¬ shHas S n f := fun ⟨k, h1, h2⟩ => h k h1 h2
set_option maxHeartbeats 4000000 in
set_option maxRecDepth 100000 in
theorem c_Fr_change (G : GT) (h : HM) (xf : Nat) (num den tk a b : Int) (hf : h xf = some (.inr (5, [.int (iZ num), .int (iZ den), .long (lZ tk)]))) (ha : iR a) (hb : iR b) : Rn G M_Fr_change (rm 0 0) [.ref xf, .int (iZ a), .int (iZ b)] h (fun r h' => (¬ rOK a b → r = some (.int (iZ 0)) ∧ h' = h) ∧ (rOK a b → r = some (.int (iZ 1)) ∧ h' xf = some (.inr (5, [.int (iZ a), .int (iZ b), .long (lZ (705600000 * b / a))])) ∧ Fm [xf] h h')) := by
  refine rn_of (by decide) (Nat.le_of_ble_eq_true rfl) ?_
  show Ev G M_Fr_change _ _ 0 [(0, .ref xf), (1, .int (iZ a)), (2, .int (iZ b))] [] _ 0 0
  have fm : Fm [xf] h h := Fm.rf
  refine ev_iload_n d_Fr_change_0 rfl rfl ?_
  refine ev_iconst (v := iZ 1) d_Fr_change_1 rfl ?_
  refine ez_icmp_lt (tgt := 23) (by omega) (by decide) d_Fr_change_2 rfl (fun c2 => ?_) (fun c2 => ?_)
  · refine ev_iconst (v := iZ 0) d_Fr_change_23 rfl ?_
    exact ev_zreturn d_Fr_change_24 rfl (Or.inl rfl) (by decide) (by decide) (⟨fun _ => ⟨rfl, rfl⟩, fun w => absurd w (by unfold rOK; omega)⟩)
  · refine ev_iload_n d_Fr_change_5 rfl rfl ?_
    refine ev_ldc (v := iZ 120000) d_Fr_change_6 kc_Fr_24 ?_
    refine ez_icmp_gt (tgt := 23) (by omega) (by decide) d_Fr_change_8 rfl (fun c8 => ?_) (fun c8 => ?_)
    · refine ev_iconst (v := iZ 0) d_Fr_change_23 rfl ?_
      exact ev_zreturn d_Fr_change_24 rfl (Or.inl rfl) (by decide) (by decide) (⟨fun _ => ⟨rfl, rfl⟩, fun w => absurd w (by unfold rOK; omega)⟩)
    · refine ev_iload_n d_Fr_change_11 rfl rfl ?_
      refine ev_iconst (v := iZ 1) d_Fr_change_12 rfl ?_
      refine ez_icmp_lt (tgt := 23) (by omega) (by decide) d_Fr_change_13 rfl (fun c13 => ?_) (fun c13 => ?_)
      · refine ev_iconst (v := iZ 0) d_Fr_change_23 rfl ?_
        exact ev_zreturn d_Fr_change_24 rfl (Or.inl rfl) (by decide) (by decide) (⟨fun _ => ⟨rfl, rfl⟩, fun w => absurd w (by unfold rOK; omega)⟩)
      · refine ev_iload_n d_Fr_change_16 rfl rfl ?_
        refine ev_sipush (v := iZ 1001) d_Fr_change_17 rfl ?_
        refine ez_icmp_le (tgt := 25) (by omega) (by decide) d_Fr_change_20 rfl (fun c20 => ?_) (fun c20 => ?_)
        · refine ev_ldc2 (v := lZ 705600000) d_Fr_change_25 kc_Fr_25 ?_
          refine ev_iload_n d_Fr_change_28 rfl rfl ?_
          refine ez_i2l (by omega) d_Fr_change_29 ?_
          refine ez_lmul d_Fr_change_30 ?_
          refine ev_iload_n d_Fr_change_31 rfl rfl ?_
          refine ez_i2l (by omega) d_Fr_change_32 ?_
          refine ez_lrem (by omega) (by omega) (by omega) (by omega) d_Fr_change_33 ?_
          refine ev_lconst (v := lZ 0) d_Fr_change_34 rfl ?_
          refine ev_lcmp d_Fr_change_35 ?_
          have e1 := Int.emod_nonneg (705600000 * b) (show a ≠ 0 by omega)
          have e2 := Int.emod_lt_of_pos (705600000 * b) (show 0 < a by omega)
          refine ez_lif_eq (tgt := 41) (by omega) (by decide) d_Fr_change_36 rfl (fun c36 => ?_) (fun c36 => ?_)
          · refine ev_iload_n d_Fr_change_41 rfl rfl ?_
            refine ev_iload_n d_Fr_change_42 rfl rfl ?_
            refine ez_icmp_lt (tgt := 54) (by omega) (by omega) d_Fr_change_43 rfl (fun c43 => ?_) (fun c43 => ?_)
            · refine ev_iconst (v := iZ 0) d_Fr_change_54 rfl ?_
              exact ev_zreturn d_Fr_change_55 rfl (Or.inl rfl) (by decide) (by decide) (⟨fun _ => ⟨rfl, rfl⟩, fun w => absurd w (by unfold rOK; omega)⟩)
            · refine ev_iload_n d_Fr_change_46 rfl rfl ?_
              refine ev_bipush (v := iZ 60) d_Fr_change_47 rfl ?_
              refine ev_iload_n d_Fr_change_49 rfl rfl ?_
              refine ez_imul d_Fr_change_50 ?_
              refine ez_icmp_le (tgt := 56) (by omega) (by omega) d_Fr_change_51 rfl (fun c51 => ?_) (fun c51 => ?_)
              · refine ev_aload_n d_Fr_change_56 rfl rfl ?_
                refine ev_iload_n d_Fr_change_57 rfl rfl ?_
                refine ev_put2 (fs' := [.int (iZ a), .int (iZ den), .long (lZ tk)]) d_Fr_change_58 fw_Fr_9 (Or.inr (fun _ _ _ q => by cases q; rfl)) hf (Nat.le_of_ble_eq_true rfl) rfl rfl rfl (fun h1 h1a h1o => ?_)
                have hf := h1a
                have fm := fm.step (by simp) h1o
                refine ev_aload_n d_Fr_change_61 rfl rfl ?_
                refine ev_iload_n d_Fr_change_62 rfl rfl ?_
                refine ev_put2 (fs' := [.int (iZ a), .int (iZ b), .long (lZ tk)]) d_Fr_change_63 fw_Fr_15 (Or.inr (fun _ _ _ q => by cases q; rfl)) hf (Nat.le_of_ble_eq_true rfl) rfl rfl rfl (fun h2 h2a h2o => ?_)
                have hf := h2a
                have fm := fm.step (by simp) h2o
                refine ev_aload_n d_Fr_change_66 rfl rfl ?_
                refine ev_ldc2 (v := lZ 705600000) d_Fr_change_67 kc_Fr_25 ?_
                refine ev_iload_n d_Fr_change_70 rfl rfl ?_
                refine ez_i2l (by omega) d_Fr_change_71 ?_
                refine ez_lmul d_Fr_change_72 ?_
                refine ev_iload_n d_Fr_change_73 rfl rfl ?_
                refine ez_i2l (by omega) d_Fr_change_74 ?_
                refine ez_ldiv (by omega) (by omega) (by omega) (by omega) d_Fr_change_75 ?_
                refine ev_put2 (fs' := [.int (iZ a), .int (iZ b), .long (lZ ((705600000 * b) / a))]) d_Fr_change_76 fw_Fr_20 (Or.inr (fun _ _ _ q => by cases q; rfl)) hf (Nat.le_of_ble_eq_true rfl) rfl rfl rfl (fun h3 h3a h3o => ?_)
                have hf := h3a
                have fm := fm.step (by simp) h3o
                refine ev_iconst (v := iZ 1) d_Fr_change_79 rfl ?_
                exact ev_zreturn d_Fr_change_80 rfl (Or.inr rfl) (by decide) (by decide) (⟨fun w => absurd (show rOK a b from ⟨by omega, by omega, by omega, by omega, by omega, by omega, by omega⟩) w, fun _ => ⟨rfl, hf, fm⟩⟩)
              · refine ev_iconst (v := iZ 0) d_Fr_change_54 rfl ?_
                exact ev_zreturn d_Fr_change_55 rfl (Or.inl rfl) (by decide) (by decide) (⟨fun _ => ⟨rfl, rfl⟩, fun w => absurd w (by unfold rOK; omega)⟩)
          · refine ev_iconst (v := iZ 0) d_Fr_change_39 rfl ?_
            exact ev_zreturn d_Fr_change_40 rfl (Or.inl rfl) (by decide) (by decide) (⟨fun _ => ⟨rfl, rfl⟩, fun w => absurd w (by unfold rOK; omega)⟩)
        · refine ev_iconst (v := iZ 0) d_Fr_change_23 rfl ?_
          exact ev_zreturn d_Fr_change_24 rfl (Or.inl rfl) (by decide) (by decide) (⟨fun _ => ⟨rfl, rfl⟩, fun w => absurd w (by unfold rOK; omega)⟩)
set_option maxHeartbeats 4000000 in
set_option maxRecDepth 100000 in
theorem c_CB_rate (G : GT) (h : HM) (x b xf xu xo xp xe xw xl xr : Nat) (num den tk a c : Int) (hx : h x = some (.inr (0, [.ref b, .ref xf, .ref xu, .ref xo, .ref xp, .ref xe, .ref xw, .ref xl, .ref xr]))) (hf : h xf = some (.inr (5, [.int (iZ num), .int (iZ den), .long (lZ tk)]))) (ha : iR a) (hc : iR c) : Rn G M_CB_rate (rm 1 30) [.ref x, .int (iZ a), .int (iZ c)] h (fun r h' => (¬ rOK a c → r = some (.int (iZ 0)) ∧ h' = h) ∧ (rOK a c → r = some (.int (iZ 1)) ∧ h' xf = some (.inr (5, [.int (iZ a), .int (iZ c), .long (lZ (705600000 * c / a))])) ∧ Fm [xf] h h')) := by
  refine rn_of (by decide) (Nat.le_of_ble_eq_true rfl) ?_
  show Ev G M_CB_rate _ _ 0 [(0, .ref x), (1, .int (iZ a)), (2, .int (iZ c))] [] _ 0 0
  refine ev_aload_n d_CB_rate_0 rfl rfl ?_
  refine ev_get d_CB_rate_1 fl_CB_19 hx rfl ?_
  refine ev_iload_n d_CB_rate_4 rfl rfl ?_
  refine ev_iload_n d_CB_rate_5 rfl rfl ?_
  refine ev_callV M_Fr_change (rm 0 0) _ (As := [.int (iZ a), .int (iZ c)]) (c_Fr_change G h xf num den tk a c hf ha hc) d_CB_rate_6 mk_Fr_change ml_CB_92 mv_Fr_change hf rfl rfl rfl (Nat.le_of_ble_eq_true rfl) ⟨by decide, by decide⟩ ⟨by decide, by decide⟩ (fun r h2 hq => ?_)
  by_cases q : rOK a c
  · obtain ⟨rfl, q1, q2⟩ := hq.2 q
    exact ev_zreturn d_CB_rate_9 rfl (Or.inr rfl) (by decide) (by decide) ⟨fun w => absurd q w, fun _ => ⟨rfl, q1, q2⟩⟩
  · obtain ⟨rfl, q1⟩ := hq.1 q
    exact ev_zreturn d_CB_rate_9 rfl (Or.inl rfl) (by decide) (by decide) ⟨fun _ => ⟨rfl, q1⟩, fun w => absurd w q⟩
set_option maxHeartbeats 4000000 in
set_option maxRecDepth 100000 in
theorem c_Mo_rate (G : GT) (h : HM) (σ : Nat → Value) (m : Nat) (num den a b : Int) (hm : h m = some (.inr (11, fsN 34 σ))) (f2 : σ 2 = .int (iZ num)) (f3 : σ 3 = .int (iZ den)) (ha : iR a) (hb : iR b) : Rn G M_Mo_rate (rm 0 0) [.ref m, .int (iZ a), .int (iZ b)] h (fun r h' => (¬ rOK a b → r = some (.int (iZ 0)) ∧ h' = h) ∧ (rOK a b → r = some (.int (iZ 1)) ∧ (∃ σ', h' m = some (.inr (11, fsN 34 σ')) ∧ σ' 2 = .int (iZ a) ∧ σ' 3 = .int (iZ b) ∧ Fs [2, 3] σ σ') ∧ Fm [m] h h')) := by
  refine rn_of (by decide) (Nat.le_of_ble_eq_true rfl) ?_
  show Ev G M_Mo_rate _ _ 0 [(0, .ref m), (1, .int (iZ a)), (2, .int (iZ b))] [] _ 0 0
  have fm : Fm [m] h h := Fm.rf
  have fs : Fs [2, 3] σ σ := Fs.rf
  refine ev_iload_n d_Mo_rate_0 rfl rfl ?_
  refine ev_iconst (v := iZ 1) d_Mo_rate_1 rfl ?_
  refine ez_icmp_lt (tgt := 50) (by omega) (by decide) d_Mo_rate_2 rfl (fun c2 => ?_) (fun c2 => ?_)
  · refine ev_iconst (v := iZ 0) d_Mo_rate_50 rfl ?_
    exact ev_zreturn d_Mo_rate_51 rfl (Or.inl rfl) (by decide) (by decide) (⟨fun _ => ⟨rfl, rfl⟩, fun w => absurd w (by unfold rOK; omega)⟩)
  · refine ev_iload_n d_Mo_rate_5 rfl rfl ?_
    refine ev_ldc (v := iZ 120000) d_Mo_rate_6 kc_Mo_100 ?_
    refine ez_icmp_gt (tgt := 50) (by omega) (by decide) d_Mo_rate_8 rfl (fun c8 => ?_) (fun c8 => ?_)
    · refine ev_iconst (v := iZ 0) d_Mo_rate_50 rfl ?_
      exact ev_zreturn d_Mo_rate_51 rfl (Or.inl rfl) (by decide) (by decide) (⟨fun _ => ⟨rfl, rfl⟩, fun w => absurd w (by unfold rOK; omega)⟩)
    · refine ev_iload_n d_Mo_rate_11 rfl rfl ?_
      refine ev_iconst (v := iZ 1) d_Mo_rate_12 rfl ?_
      refine ez_icmp_lt (tgt := 50) (by omega) (by decide) d_Mo_rate_13 rfl (fun c13 => ?_) (fun c13 => ?_)
      · refine ev_iconst (v := iZ 0) d_Mo_rate_50 rfl ?_
        exact ev_zreturn d_Mo_rate_51 rfl (Or.inl rfl) (by decide) (by decide) (⟨fun _ => ⟨rfl, rfl⟩, fun w => absurd w (by unfold rOK; omega)⟩)
      · refine ev_iload_n d_Mo_rate_16 rfl rfl ?_
        refine ev_sipush (v := iZ 1001) d_Mo_rate_17 rfl ?_
        refine ez_icmp_gt (tgt := 50) (by omega) (by decide) d_Mo_rate_20 rfl (fun c20 => ?_) (fun c20 => ?_)
        · refine ev_iconst (v := iZ 0) d_Mo_rate_50 rfl ?_
          exact ev_zreturn d_Mo_rate_51 rfl (Or.inl rfl) (by decide) (by decide) (⟨fun _ => ⟨rfl, rfl⟩, fun w => absurd w (by unfold rOK; omega)⟩)
        · refine ev_ldc2 (v := lZ 705600000) d_Mo_rate_23 kc_Mo_86 ?_
          refine ev_iload_n d_Mo_rate_26 rfl rfl ?_
          refine ez_i2l (by omega) d_Mo_rate_27 ?_
          refine ez_lmul d_Mo_rate_28 ?_
          refine ev_iload_n d_Mo_rate_29 rfl rfl ?_
          refine ez_i2l (by omega) d_Mo_rate_30 ?_
          refine ez_lrem (by omega) (by omega) (by omega) (by omega) d_Mo_rate_31 ?_
          refine ev_lconst (v := lZ 0) d_Mo_rate_32 rfl ?_
          refine ev_lcmp d_Mo_rate_33 ?_
          have e1 := Int.emod_nonneg (705600000 * b) (show a ≠ 0 by omega)
          have e2 := Int.emod_lt_of_pos (705600000 * b) (show 0 < a by omega)
          refine ez_lif_ne (tgt := 50) (by omega) (by decide) d_Mo_rate_34 rfl (fun c34 => ?_) (fun c34 => ?_)
          · refine ev_iconst (v := iZ 0) d_Mo_rate_50 rfl ?_
            exact ev_zreturn d_Mo_rate_51 rfl (Or.inl rfl) (by decide) (by decide) (⟨fun _ => ⟨rfl, rfl⟩, fun w => absurd w (by unfold rOK; omega)⟩)
          · refine ev_iload_n d_Mo_rate_37 rfl rfl ?_
            refine ev_iload_n d_Mo_rate_38 rfl rfl ?_
            refine ez_icmp_lt (tgt := 50) (by omega) (by omega) d_Mo_rate_39 rfl (fun c39 => ?_) (fun c39 => ?_)
            · refine ev_iconst (v := iZ 0) d_Mo_rate_50 rfl ?_
              exact ev_zreturn d_Mo_rate_51 rfl (Or.inl rfl) (by decide) (by decide) (⟨fun _ => ⟨rfl, rfl⟩, fun w => absurd w (by unfold rOK; omega)⟩)
            · refine ev_iload_n d_Mo_rate_42 rfl rfl ?_
              refine ev_bipush (v := iZ 60) d_Mo_rate_43 rfl ?_
              refine ev_iload_n d_Mo_rate_45 rfl rfl ?_
              refine ez_imul d_Mo_rate_46 ?_
              refine ez_icmp_le (tgt := 52) (by omega) (by omega) d_Mo_rate_47 rfl (fun c47 => ?_) (fun c47 => ?_)
              · refine ev_aload_n d_Mo_rate_52 rfl rfl ?_
                refine ev_iload_n d_Mo_rate_53 rfl rfl ?_
                refine ev_putF2 d_Mo_rate_54 fw_Mo_13 (Or.inr (fun _ _ _ q => by cases q; rfl)) hm (by decide) rfl rfl (fun h1 σ2 h1a σ2j σ2o h1o => ?_)
                have f3 := (σ2o 3 (by decide)).trans f3
                have f2 := σ2j
                have fs := fs.step (by simp) σ2o
                have hm := h1a
                have fm := fm.step (by simp) h1o
                refine ev_aload_n d_Mo_rate_57 rfl rfl ?_
                refine ev_iload_n d_Mo_rate_58 rfl rfl ?_
                refine ev_putF2 d_Mo_rate_59 fw_Mo_17 (Or.inr (fun _ _ _ q => by cases q; rfl)) hm (by decide) rfl rfl (fun h3 σ4 h3a σ4j σ4o h3o => ?_)
                have f2 := (σ4o 2 (by decide)).trans f2
                have f3 := σ4j
                have fs := fs.step (by simp) σ4o
                have hm := h3a
                have fm := fm.step (by simp) h3o
                refine ev_iconst (v := iZ 1) d_Mo_rate_62 rfl ?_
                exact ev_zreturn d_Mo_rate_63 rfl (Or.inr rfl) (by decide) (by decide) (⟨fun w => absurd (show rOK a b from ⟨by omega, by omega, by omega, by omega, by omega, by omega, by omega⟩) w, fun _ => ⟨rfl, ⟨σ4, hm, f2, f3, fs⟩, fm⟩⟩)
              · refine ev_iconst (v := iZ 0) d_Mo_rate_50 rfl ?_
                exact ev_zreturn d_Mo_rate_51 rfl (Or.inl rfl) (by decide) (by decide) (⟨fun _ => ⟨rfl, rfl⟩, fun w => absurd w (by unfold rOK; omega)⟩)
set_option maxHeartbeats 4000000 in
set_option maxRecDepth 100000 in
theorem c_Ru_change (G : GT) (h : HM) (xu us : Nat) (g0 l0 m0 s0 n a b c d : Int) (hu : h xu = some (.inr (10, [.int (iZ g0), .int (iZ l0), .int (iZ m0), .int (iZ s0), .ref us, .int (iZ n)]))) (ha : iR a) (hb : iR b) (hc : iR c) (hd : iR d) : Rn G M_Ru_change (rm 0 0) [.ref xu, .int (iZ a), .int (iZ b), .int (iZ c), .int (iZ d)] h (fun r h' => (¬ uOK a b c d → r = some (.int (iZ 0)) ∧ h' = h) ∧ (uOK a b c d → r = some (.int (iZ 1)) ∧ h' xu = some (.inr (10, [.int (iZ a), .int (iZ b), .int (iZ c), .int (iZ d), .ref us, .int (iZ n)])) ∧ Fm [xu] h h')) := by
  refine rn_of (by decide) (Nat.le_of_ble_eq_true rfl) ?_
  show Ev G M_Ru_change _ _ 0 [(0, .ref xu), (1, .int (iZ a)), (2, .int (iZ b)), (3, .int (iZ c)), (4, .int (iZ d))] [] _ 0 0
  have fm : Fm [xu] h h := Fm.rf
  refine ev_iload_n d_Ru_change_0 rfl rfl ?_
  refine ez_if_lt (tgt := 21) (by omega) d_Ru_change_1 rfl (fun c1 => ?_) (fun c1 => ?_)
  · refine ev_iconst (v := iZ 0) d_Ru_change_21 rfl ?_
    exact ev_zreturn d_Ru_change_22 rfl (Or.inl rfl) (by decide) (by decide) (⟨fun _ => ⟨rfl, rfl⟩, fun w => absurd w (by unfold uOK; omega)⟩)
  · refine ev_iload_n d_Ru_change_4 rfl rfl ?_
    refine ev_bipush (v := iZ 20) d_Ru_change_5 rfl ?_
    refine ez_icmp_gt (tgt := 21) (by omega) (by decide) d_Ru_change_7 rfl (fun c7 => ?_) (fun c7 => ?_)
    · refine ev_iconst (v := iZ 0) d_Ru_change_21 rfl ?_
      exact ev_zreturn d_Ru_change_22 rfl (Or.inl rfl) (by decide) (by decide) (⟨fun _ => ⟨rfl, rfl⟩, fun w => absurd w (by unfold uOK; omega)⟩)
    · refine ev_iload_n d_Ru_change_10 rfl rfl ?_
      refine ev_iconst (v := iZ 1) d_Ru_change_11 rfl ?_
      refine ez_icmp_lt (tgt := 21) (by omega) (by decide) d_Ru_change_12 rfl (fun c12 => ?_) (fun c12 => ?_)
      · refine ev_iconst (v := iZ 0) d_Ru_change_21 rfl ?_
        exact ev_zreturn d_Ru_change_22 rfl (Or.inl rfl) (by decide) (by decide) (⟨fun _ => ⟨rfl, rfl⟩, fun w => absurd w (by unfold uOK; omega)⟩)
      · refine ev_iload_n d_Ru_change_15 rfl rfl ?_
        refine ev_bipush (v := iZ 100) d_Ru_change_16 rfl ?_
        refine ez_icmp_le (tgt := 23) (by omega) (by decide) d_Ru_change_18 rfl (fun c18 => ?_) (fun c18 => ?_)
        · refine ev_iload_n d_Ru_change_23 rfl rfl ?_
          refine ev_iload_n d_Ru_change_24 rfl rfl ?_
          refine ez_icmp_lt (tgt := 48) (by omega) (by omega) d_Ru_change_25 rfl (fun c25 => ?_) (fun c25 => ?_)
          · refine ev_iconst (v := iZ 0) d_Ru_change_48 rfl ?_
            exact ev_zreturn d_Ru_change_49 rfl (Or.inl rfl) (by decide) (by decide) (⟨fun _ => ⟨rfl, rfl⟩, fun w => absurd w (by unfold uOK; omega)⟩)
          · refine ev_iload_n d_Ru_change_28 rfl rfl ?_
            refine ev_sipush (v := iZ 400) d_Ru_change_29 rfl ?_
            refine ez_icmp_gt (tgt := 48) (by omega) (by decide) d_Ru_change_32 rfl (fun c32 => ?_) (fun c32 => ?_)
            · refine ev_iconst (v := iZ 0) d_Ru_change_48 rfl ?_
              exact ev_zreturn d_Ru_change_49 rfl (Or.inl rfl) (by decide) (by decide) (⟨fun _ => ⟨rfl, rfl⟩, fun w => absurd w (by unfold uOK; omega)⟩)
            · refine ev_iload d_Ru_change_35 rfl ?_
              refine ev_iconst (v := iZ 1) d_Ru_change_37 rfl ?_
              refine ez_icmp_lt (tgt := 48) (by omega) (by decide) d_Ru_change_38 rfl (fun c38 => ?_) (fun c38 => ?_)
              · refine ev_iconst (v := iZ 0) d_Ru_change_48 rfl ?_
                exact ev_zreturn d_Ru_change_49 rfl (Or.inl rfl) (by decide) (by decide) (⟨fun _ => ⟨rfl, rfl⟩, fun w => absurd w (by unfold uOK; omega)⟩)
              · refine ev_iload d_Ru_change_41 rfl ?_
                refine ev_bipush (v := iZ 60) d_Ru_change_43 rfl ?_
                refine ez_icmp_le (tgt := 50) (by omega) (by decide) d_Ru_change_45 rfl (fun c45 => ?_) (fun c45 => ?_)
                · refine ev_aload_n d_Ru_change_50 rfl rfl ?_
                  refine ev_iload_n d_Ru_change_51 rfl rfl ?_
                  refine ev_put2 (fs' := [.int (iZ a), .int (iZ l0), .int (iZ m0), .int (iZ s0), .ref us, .int (iZ n)]) d_Ru_change_52 fw_Ru_9 (Or.inr (fun _ _ _ q => by cases q; rfl)) hu (Nat.le_of_ble_eq_true rfl) rfl rfl rfl (fun h1 h1a h1o => ?_)
                  have hu := h1a
                  have fm := fm.step (by simp) h1o
                  refine ev_aload_n d_Ru_change_55 rfl rfl ?_
                  refine ev_iload_n d_Ru_change_56 rfl rfl ?_
                  refine ev_put2 (fs' := [.int (iZ a), .int (iZ b), .int (iZ m0), .int (iZ s0), .ref us, .int (iZ n)]) d_Ru_change_57 fw_Ru_15 (Or.inr (fun _ _ _ q => by cases q; rfl)) hu (Nat.le_of_ble_eq_true rfl) rfl rfl rfl (fun h2 h2a h2o => ?_)
                  have hu := h2a
                  have fm := fm.step (by simp) h2o
                  refine ev_aload_n d_Ru_change_60 rfl rfl ?_
                  refine ev_iload_n d_Ru_change_61 rfl rfl ?_
                  refine ev_put2 (fs' := [.int (iZ a), .int (iZ b), .int (iZ c), .int (iZ s0), .ref us, .int (iZ n)]) d_Ru_change_62 fw_Ru_18 (Or.inr (fun _ _ _ q => by cases q; rfl)) hu (Nat.le_of_ble_eq_true rfl) rfl rfl rfl (fun h3 h3a h3o => ?_)
                  have hu := h3a
                  have fm := fm.step (by simp) h3o
                  refine ev_aload_n d_Ru_change_65 rfl rfl ?_
                  refine ev_iload d_Ru_change_66 rfl ?_
                  refine ev_put2 (fs' := [.int (iZ a), .int (iZ b), .int (iZ c), .int (iZ d), .ref us, .int (iZ n)]) d_Ru_change_68 fw_Ru_21 (Or.inr (fun _ _ _ q => by cases q; rfl)) hu (Nat.le_of_ble_eq_true rfl) rfl rfl rfl (fun h4 h4a h4o => ?_)
                  have hu := h4a
                  have fm := fm.step (by simp) h4o
                  refine ev_iconst (v := iZ 1) d_Ru_change_71 rfl ?_
                  exact ev_zreturn d_Ru_change_72 rfl (Or.inr rfl) (by decide) (by decide) (⟨fun w => absurd (show uOK a b c d from ⟨by omega, by omega, by omega, by omega, by omega, by omega, by omega, by omega⟩) w, fun _ => ⟨rfl, hu, fm⟩⟩)
                · refine ev_iconst (v := iZ 0) d_Ru_change_48 rfl ?_
                  exact ev_zreturn d_Ru_change_49 rfl (Or.inl rfl) (by decide) (by decide) (⟨fun _ => ⟨rfl, rfl⟩, fun w => absurd w (by unfold uOK; omega)⟩)
        · refine ev_iconst (v := iZ 0) d_Ru_change_21 rfl ?_
          exact ev_zreturn d_Ru_change_22 rfl (Or.inl rfl) (by decide) (by decide) (⟨fun _ => ⟨rfl, rfl⟩, fun w => absurd w (by unfold uOK; omega)⟩)
set_option maxHeartbeats 4000000 in
set_option maxRecDepth 100000 in
theorem c_CB_rules (G : GT) (h : HM) (x b xf xu xo xp xe xw xl xr : Nat) (us : Nat) (g0 l0 m0 s0 n a1 a2 a3 a4 : Int) (hx : h x = some (.inr (0, [.ref b, .ref xf, .ref xu, .ref xo, .ref xp, .ref xe, .ref xw, .ref xl, .ref xr]))) (hu : h xu = some (.inr (10, [.int (iZ g0), .int (iZ l0), .int (iZ m0), .int (iZ s0), .ref us, .int (iZ n)]))) (h1 : iR a1) (h2 : iR a2) (h3 : iR a3) (h4 : iR a4) : Rn G M_CB_rules (rm 1 30) [.ref x, .int (iZ a1), .int (iZ a2), .int (iZ a3), .int (iZ a4)] h (fun r h' => (¬ uOK a1 a2 a3 a4 → r = some (.int (iZ 0)) ∧ h' = h) ∧ (uOK a1 a2 a3 a4 → r = some (.int (iZ 1)) ∧ h' xu = some (.inr (10, [.int (iZ a1), .int (iZ a2), .int (iZ a3), .int (iZ a4), .ref us, .int (iZ n)])) ∧ Fm [xu] h h')) := by
  refine rn_of (by decide) (Nat.le_of_ble_eq_true rfl) ?_
  show Ev G M_CB_rules _ _ 0 [(0, .ref x), (1, .int (iZ a1)), (2, .int (iZ a2)), (3, .int (iZ a3)), (4, .int (iZ a4))] [] _ 0 0
  refine ev_aload_n d_CB_rules_0 rfl rfl ?_
  refine ev_get d_CB_rules_1 fl_CB_26 hx rfl ?_
  refine ev_iload_n d_CB_rules_4 rfl rfl ?_
  refine ev_iload_n d_CB_rules_5 rfl rfl ?_
  refine ev_iload_n d_CB_rules_6 rfl rfl ?_
  refine ev_iload d_CB_rules_7 rfl ?_
  refine ev_callV M_Ru_change (rm 0 0) _ (As := [.int (iZ a1), .int (iZ a2), .int (iZ a3), .int (iZ a4)]) (c_Ru_change G h xu us g0 l0 m0 s0 n a1 a2 a3 a4 hu h1 h2 h3 h4) d_CB_rules_9 mk_Ru_change ml_CB_151 mv_Ru_change hu rfl rfl rfl (Nat.le_of_ble_eq_true rfl) ⟨by decide, by decide⟩ ⟨by decide, by decide⟩ (fun r h9 hq => ?_)
  by_cases q : uOK a1 a2 a3 a4
  · obtain ⟨rfl, q1, q2⟩ := hq.2 q
    exact ev_zreturn d_CB_rules_12 rfl (Or.inr rfl) (by decide) (by decide) ⟨fun w => absurd q w, fun _ => ⟨rfl, q1, q2⟩⟩
  · obtain ⟨rfl, q1⟩ := hq.1 q
    exact ev_zreturn d_CB_rules_12 rfl (Or.inl rfl) (by decide) (by decide) ⟨fun _ => ⟨rfl, q1⟩, fun w => absurd w q⟩
set_option maxHeartbeats 4000000 in
set_option maxRecDepth 100000 in
theorem c_Mo_rules (G : GT) (h : HM) (σ : Nat → Value) (m : Nat) (g0 l0 m0 s0 a b c d : Int) (hm : h m = some (.inr (11, fsN 34 σ))) (f27 : σ 27 = .int (iZ g0)) (f28 : σ 28 = .int (iZ l0)) (f29 : σ 29 = .int (iZ m0)) (f30 : σ 30 = .int (iZ s0)) (ha : iR a) (hb : iR b) (hc : iR c) (hd : iR d) : Rn G M_Mo_rules (rm 0 0) [.ref m, .int (iZ a), .int (iZ b), .int (iZ c), .int (iZ d)] h (fun r h' => (¬ uOK a b c d → r = some (.int (iZ 0)) ∧ h' = h) ∧ (uOK a b c d → r = some (.int (iZ 1)) ∧ (∃ σ', h' m = some (.inr (11, fsN 34 σ')) ∧ σ' 27 = .int (iZ a) ∧ σ' 28 = .int (iZ b) ∧ σ' 29 = .int (iZ c) ∧ σ' 30 = .int (iZ d) ∧ Fs [27, 28, 29, 30] σ σ') ∧ Fm [m] h h')) := by
  refine rn_of (by decide) (Nat.le_of_ble_eq_true rfl) ?_
  show Ev G M_Mo_rules _ _ 0 [(0, .ref m), (1, .int (iZ a)), (2, .int (iZ b)), (3, .int (iZ c)), (4, .int (iZ d))] [] _ 0 0
  have fm : Fm [m] h h := Fm.rf
  have fs : Fs [27, 28, 29, 30] σ σ := Fs.rf
  refine ev_iload_n d_Mo_rules_0 rfl rfl ?_
  refine ez_if_lt (tgt := 46) (by omega) d_Mo_rules_1 rfl (fun c1 => ?_) (fun c1 => ?_)
  · refine ev_iconst (v := iZ 0) d_Mo_rules_46 rfl ?_
    exact ev_zreturn d_Mo_rules_47 rfl (Or.inl rfl) (by decide) (by decide) (⟨fun _ => ⟨rfl, rfl⟩, fun w => absurd w (by unfold uOK; omega)⟩)
  · refine ev_iload_n d_Mo_rules_4 rfl rfl ?_
    refine ev_bipush (v := iZ 20) d_Mo_rules_5 rfl ?_
    refine ez_icmp_gt (tgt := 46) (by omega) (by decide) d_Mo_rules_7 rfl (fun c7 => ?_) (fun c7 => ?_)
    · refine ev_iconst (v := iZ 0) d_Mo_rules_46 rfl ?_
      exact ev_zreturn d_Mo_rules_47 rfl (Or.inl rfl) (by decide) (by decide) (⟨fun _ => ⟨rfl, rfl⟩, fun w => absurd w (by unfold uOK; omega)⟩)
    · refine ev_iload_n d_Mo_rules_10 rfl rfl ?_
      refine ev_iconst (v := iZ 1) d_Mo_rules_11 rfl ?_
      refine ez_icmp_lt (tgt := 46) (by omega) (by decide) d_Mo_rules_12 rfl (fun c12 => ?_) (fun c12 => ?_)
      · refine ev_iconst (v := iZ 0) d_Mo_rules_46 rfl ?_
        exact ev_zreturn d_Mo_rules_47 rfl (Or.inl rfl) (by decide) (by decide) (⟨fun _ => ⟨rfl, rfl⟩, fun w => absurd w (by unfold uOK; omega)⟩)
      · refine ev_iload_n d_Mo_rules_15 rfl rfl ?_
        refine ev_bipush (v := iZ 100) d_Mo_rules_16 rfl ?_
        refine ez_icmp_gt (tgt := 46) (by omega) (by decide) d_Mo_rules_18 rfl (fun c18 => ?_) (fun c18 => ?_)
        · refine ev_iconst (v := iZ 0) d_Mo_rules_46 rfl ?_
          exact ev_zreturn d_Mo_rules_47 rfl (Or.inl rfl) (by decide) (by decide) (⟨fun _ => ⟨rfl, rfl⟩, fun w => absurd w (by unfold uOK; omega)⟩)
        · refine ev_iload_n d_Mo_rules_21 rfl rfl ?_
          refine ev_iload_n d_Mo_rules_22 rfl rfl ?_
          refine ez_icmp_lt (tgt := 46) (by omega) (by omega) d_Mo_rules_23 rfl (fun c23 => ?_) (fun c23 => ?_)
          · refine ev_iconst (v := iZ 0) d_Mo_rules_46 rfl ?_
            exact ev_zreturn d_Mo_rules_47 rfl (Or.inl rfl) (by decide) (by decide) (⟨fun _ => ⟨rfl, rfl⟩, fun w => absurd w (by unfold uOK; omega)⟩)
          · refine ev_iload_n d_Mo_rules_26 rfl rfl ?_
            refine ev_sipush (v := iZ 400) d_Mo_rules_27 rfl ?_
            refine ez_icmp_gt (tgt := 46) (by omega) (by decide) d_Mo_rules_30 rfl (fun c30 => ?_) (fun c30 => ?_)
            · refine ev_iconst (v := iZ 0) d_Mo_rules_46 rfl ?_
              exact ev_zreturn d_Mo_rules_47 rfl (Or.inl rfl) (by decide) (by decide) (⟨fun _ => ⟨rfl, rfl⟩, fun w => absurd w (by unfold uOK; omega)⟩)
            · refine ev_iload d_Mo_rules_33 rfl ?_
              refine ev_iconst (v := iZ 1) d_Mo_rules_35 rfl ?_
              refine ez_icmp_lt (tgt := 46) (by omega) (by decide) d_Mo_rules_36 rfl (fun c36 => ?_) (fun c36 => ?_)
              · refine ev_iconst (v := iZ 0) d_Mo_rules_46 rfl ?_
                exact ev_zreturn d_Mo_rules_47 rfl (Or.inl rfl) (by decide) (by decide) (⟨fun _ => ⟨rfl, rfl⟩, fun w => absurd w (by unfold uOK; omega)⟩)
              · refine ev_iload d_Mo_rules_39 rfl ?_
                refine ev_bipush (v := iZ 60) d_Mo_rules_41 rfl ?_
                refine ez_icmp_le (tgt := 48) (by omega) (by decide) d_Mo_rules_43 rfl (fun c43 => ?_) (fun c43 => ?_)
                · refine ev_aload_n d_Mo_rules_48 rfl rfl ?_
                  refine ev_iload_n d_Mo_rules_49 rfl rfl ?_
                  refine ev_putF2 d_Mo_rules_50 fw_Mo_63 (Or.inr (fun _ _ _ q => by cases q; rfl)) hm (by decide) rfl rfl (fun h1 σ2 h1a σ2j σ2o h1o => ?_)
                  have f28 := (σ2o 28 (by decide)).trans f28
                  have f29 := (σ2o 29 (by decide)).trans f29
                  have f30 := (σ2o 30 (by decide)).trans f30
                  have f27 := σ2j
                  have fs := fs.step (by simp) σ2o
                  have hm := h1a
                  have fm := fm.step (by simp) h1o
                  refine ev_aload_n d_Mo_rules_53 rfl rfl ?_
                  refine ev_iload_n d_Mo_rules_54 rfl rfl ?_
                  refine ev_putF2 d_Mo_rules_55 fw_Mo_66 (Or.inr (fun _ _ _ q => by cases q; rfl)) hm (by decide) rfl rfl (fun h3 σ4 h3a σ4j σ4o h3o => ?_)
                  have f27 := (σ4o 27 (by decide)).trans f27
                  have f29 := (σ4o 29 (by decide)).trans f29
                  have f30 := (σ4o 30 (by decide)).trans f30
                  have f28 := σ4j
                  have fs := fs.step (by simp) σ4o
                  have hm := h3a
                  have fm := fm.step (by simp) h3o
                  refine ev_aload_n d_Mo_rules_58 rfl rfl ?_
                  refine ev_iload_n d_Mo_rules_59 rfl rfl ?_
                  refine ev_putF2 d_Mo_rules_60 fw_Mo_69 (Or.inr (fun _ _ _ q => by cases q; rfl)) hm (by decide) rfl rfl (fun h5 σ6 h5a σ6j σ6o h5o => ?_)
                  have f27 := (σ6o 27 (by decide)).trans f27
                  have f28 := (σ6o 28 (by decide)).trans f28
                  have f30 := (σ6o 30 (by decide)).trans f30
                  have f29 := σ6j
                  have fs := fs.step (by simp) σ6o
                  have hm := h5a
                  have fm := fm.step (by simp) h5o
                  refine ev_aload_n d_Mo_rules_63 rfl rfl ?_
                  refine ev_iload d_Mo_rules_64 rfl ?_
                  refine ev_putF2 d_Mo_rules_66 fw_Mo_72 (Or.inr (fun _ _ _ q => by cases q; rfl)) hm (by decide) rfl rfl (fun h7 σ8 h7a σ8j σ8o h7o => ?_)
                  have f27 := (σ8o 27 (by decide)).trans f27
                  have f28 := (σ8o 28 (by decide)).trans f28
                  have f29 := (σ8o 29 (by decide)).trans f29
                  have f30 := σ8j
                  have fs := fs.step (by simp) σ8o
                  have hm := h7a
                  have fm := fm.step (by simp) h7o
                  refine ev_iconst (v := iZ 1) d_Mo_rules_69 rfl ?_
                  exact ev_zreturn d_Mo_rules_70 rfl (Or.inr rfl) (by decide) (by decide) (⟨fun w => absurd (show uOK a b c d from ⟨by omega, by omega, by omega, by omega, by omega, by omega, by omega, by omega⟩) w, fun _ => ⟨rfl, ⟨σ8, hm, f27, f28, f29, f30, fs⟩, fm⟩⟩)
                · refine ev_iconst (v := iZ 0) d_Mo_rules_46 rfl ?_
                  exact ev_zreturn d_Mo_rules_47 rfl (Or.inl rfl) (by decide) (by decide) (⟨fun _ => ⟨rfl, rfl⟩, fun w => absurd w (by unfold uOK; omega)⟩)
set_option maxHeartbeats 4000000 in
set_option maxRecDepth 100000 in
theorem lp_Ru_addShot (G : GT) (h : HM) (xu us : Nat) (g0 l0 m0 s0 f : Int) (n : Nat) (S : Nat → Int) (hu : h xu = some (.inr (10, [.int (iZ g0), .int (iZ l0), .int (iZ m0), .int (iZ s0), .ref us, .int (iZ (n : Int))]))) (hs : h us = some (.inl (G_i G, 20, .inl (iA S)))) (hn : n ≤ 20) (hS : ∀ k, k < n → 0 ≤ S k ∧ S k ≤ 216000) (hf : 0 ≤ f ∧ f ≤ 216000) (fm : Fm [xu, us] h h) : ∀ (d : Nat) (k : Nat), k + d = n → (∀ j, j < k → S j ≠ f) → Ev G M_Ru_addShot (rm 0 0) (fun r h' => r = some (.int (iZ (shR f n S).1)) ∧ h' xu = some (.inr (10, [.int (iZ g0), .int (iZ l0), .int (iZ m0), .int (iZ s0), .ref us, .int (iZ ((shR f n S).2.1 : Int))])) ∧ h' us = some (.inl (G_i G, 20, .inl (iA (shR f n S).2.2))) ∧ Fm [xu, us] h h') 15 [(0, .ref xu), (1, .int (iZ f)), (2, .int (iZ (k : Int)))] [] h 0 0 := by
  intro d
  induction d using Nat.strongRecOn with
  | ind d ih =>
  intro k hk hno
  refine ev_iload_n d_Ru_addShot_15 rfl rfl ?_
  refine ev_aload_n d_Ru_addShot_16 rfl rfl ?_
  refine ev_get d_Ru_addShot_17 fl_Ru_29 hu rfl ?_
  refine ez_icmp_ge (tgt := 44) (by omega) (by omega) d_Ru_addShot_20 rfl (fun c20 => ?_) (fun c20 => ?_)
  · refine ev_aload_n d_Ru_addShot_44 rfl rfl ?_
    refine ev_get d_Ru_addShot_45 fl_Ru_29 hu rfl ?_
    refine ev_bipush (v := iZ 20) d_Ru_addShot_48 rfl ?_
    refine ez_icmp_ne (tgt := 56) (by omega) (by decide) d_Ru_addShot_50 rfl (fun c50 => ?_) (fun c50 => ?_)
    · refine ev_aload_n d_Ru_addShot_56 rfl rfl ?_
      refine ev_get d_Ru_addShot_57 fl_Ru_24 hu rfl ?_
      refine ev_aload_n d_Ru_addShot_60 rfl rfl ?_
      refine ev_dup d_Ru_addShot_61 rfl ?_
      refine ev_get d_Ru_addShot_62 fl_Ru_29 hu rfl ?_
      refine ev_dup_x1 d_Ru_addShot_65 rfl rfl ?_
      refine ev_iconst (v := iZ 1) d_Ru_addShot_66 rfl ?_
      refine ez_iadd d_Ru_addShot_67 ?_
      refine ev_put2 (fs' := [.int (iZ g0), .int (iZ l0), .int (iZ m0), .int (iZ s0), .ref us, .int (iZ ((n : Int) + 1))]) d_Ru_addShot_68 fw_Ru_29 (Or.inr (fun _ _ _ q => by cases q; rfl)) hu (Nat.le_of_ble_eq_true rfl) rfl rfl rfl (fun h1 h1a h1o => ?_)
      have hs := (h1o _ (cne hs hu (by simp))).trans hs
      have hu := h1a
      have fm := fm.step (by simp) h1o
      refine ev_iload_n d_Ru_addShot_71 rfl rfl ?_
      refine ez_iastore (F' := zup S n f) n d_Ru_addShot_72 hs (by omega) (by omega) (by decide) rfl (fun h2 h2a h2o => ?_)
      have hu := (h2o _ (cne hu hs (by simp))).trans hu
      have hs := h2a
      have fm := fm.step (by simp) h2o
      refine ev_aload_n d_Ru_addShot_73 rfl rfl ?_
      refine ev_get d_Ru_addShot_74 fl_Ru_29 hu rfl ?_
      exact ev_ireturn d_Ru_addShot_77 rfl (by decide) (by decide) (⟨by rw [shR_new (by omega) (shHas_no fun j hj => hno j (by omega)) (by omega)], by rw [shR_new (by omega) (shHas_no fun j hj => hno j (by omega)) (by omega)]; exact hu, by rw [shR_new (by omega) (shHas_no fun j hj => hno j (by omega)) (by omega)]; exact hs, fm⟩)
    · refine ev_bipush (v := iZ (-3)) d_Ru_addShot_53 rfl ?_
      exact ev_ireturn d_Ru_addShot_55 rfl (by decide) (by decide) (⟨by rw [shR_full (by omega) (shHas_no fun j hj => hno j (by omega)) (by omega)], by rw [shR_full (by omega) (shHas_no fun j hj => hno j (by omega)) (by omega)]; exact hu, by rw [shR_full (by omega) (shHas_no fun j hj => hno j (by omega)) (by omega)]; exact hs, fm⟩)
  · refine ev_aload_n d_Ru_addShot_23 rfl rfl ?_
    refine ev_get d_Ru_addShot_24 fl_Ru_24 hu rfl ?_
    refine ev_iload_n d_Ru_addShot_27 rfl rfl ?_
    have rg := hS k (by omega)
    refine ez_iaload k d_Ru_addShot_28 hs (by omega) (by omega) (by decide) ?_
    refine ev_iload_n d_Ru_addShot_29 rfl rfl ?_
    refine ez_icmp_ne (tgt := 38) (by omega) (by omega) d_Ru_addShot_30 rfl (fun c30 => ?_) (fun c30 => ?_)
    · refine ez_iinc (L' := [(0, .ref xu), (1, .int (iZ f)), (2, .int (iZ ((k + 1 : Nat) : Int)))]) d_Ru_addShot_38 rfl (by decide) rfl ?_
      refine ev_goto (tgt := 15) d_Ru_addShot_41 rfl ?_
      exact ih (d - 1) (by omega) (k + 1) (by omega) (fun j hj => by rcases Nat.lt_succ_iff_lt_or_eq.mp hj with q | rfl; exact hno j q; exact c30)
    · refine ev_aload_n d_Ru_addShot_33 rfl rfl ?_
      refine ev_get d_Ru_addShot_34 fl_Ru_29 hu rfl ?_
      exact ev_ireturn d_Ru_addShot_37 rfl (by decide) (by decide) (⟨by rw [shR_has (by omega) ⟨k, by omega, c30⟩], by rw [shR_has (by omega) ⟨k, by omega, c30⟩]; exact hu, by rw [shR_has (by omega) ⟨k, by omega, c30⟩]; exact hs, fm⟩)
set_option maxHeartbeats 4000000 in
set_option maxRecDepth 100000 in
theorem c_Ru_addShot (G : GT) (h : HM) (xu us : Nat) (g0 l0 m0 s0 f : Int) (n : Nat) (S : Nat → Int) (hu : h xu = some (.inr (10, [.int (iZ g0), .int (iZ l0), .int (iZ m0), .int (iZ s0), .ref us, .int (iZ (n : Int))]))) (hs : h us = some (.inl (G_i G, 20, .inl (iA S)))) (hn : n ≤ 20) (hS : ∀ k, k < n → 0 ≤ S k ∧ S k ≤ 216000) (hf : iR f) : Rn G M_Ru_addShot (rm 0 0) [.ref xu, .int (iZ f)] h (fun r h' => r = some (.int (iZ (shR f n S).1)) ∧ h' xu = some (.inr (10, [.int (iZ g0), .int (iZ l0), .int (iZ m0), .int (iZ s0), .ref us, .int (iZ ((shR f n S).2.1 : Int))])) ∧ h' us = some (.inl (G_i G, 20, .inl (iA (shR f n S).2.2))) ∧ Fm [xu, us] h h') := by
  refine rn_of (by decide) (Nat.le_of_ble_eq_true rfl) ?_
  show Ev G M_Ru_addShot _ _ 0 [(0, .ref xu), (1, .int (iZ f))] [] _ 0 0
  refine ev_iload_n d_Ru_addShot_0 rfl rfl ?_
  refine ez_if_lt (tgt := 10) (by omega) d_Ru_addShot_1 rfl (fun c1 => ?_) (fun c1 => ?_)
  · refine ev_bipush (v := iZ (-2)) d_Ru_addShot_10 rfl ?_
    exact ev_ireturn d_Ru_addShot_12 rfl (by decide) (by decide) (⟨by rw [shR_bad (by omega)], by rw [shR_bad (by omega)]; exact hu, by rw [shR_bad (by omega)]; exact hs, Fm.rf⟩)
  · refine ev_iload_n d_Ru_addShot_4 rfl rfl ?_
    refine ev_ldc (v := iZ 216000) d_Ru_addShot_5 kc_Ru_28 ?_
    refine ez_icmp_le (tgt := 13) (by omega) (by decide) d_Ru_addShot_7 rfl (fun c7 => ?_) (fun c7 => ?_)
    · refine ev_iconst (v := iZ 0) d_Ru_addShot_13 rfl ?_
      refine ev_istore_n (L' := [(0, .ref xu), (1, .int (iZ f)), (2, .int (iZ 0))]) d_Ru_addShot_14 rfl (by decide) rfl ?_
      exact lp_Ru_addShot G h xu us g0 l0 m0 s0 f n S hu hs hn hS (by omega) Fm.rf n 0 (by omega) (fun j hj => absurd hj (by omega))
    · refine ev_bipush (v := iZ (-2)) d_Ru_addShot_10 rfl ?_
      exact ev_ireturn d_Ru_addShot_12 rfl (by decide) (by decide) (⟨by rw [shR_bad (by omega)], by rw [shR_bad (by omega)]; exact hu, by rw [shR_bad (by omega)]; exact hs, Fm.rf⟩)
set_option maxHeartbeats 4000000 in
set_option maxRecDepth 100000 in
theorem c_CB_shot (G : GT) (h : HM) (x b xf xu xo xp xe xw xl xr : Nat) (us : Nat) (g0 l0 m0 s0 f : Int) (n : Nat) (S : Nat → Int) (hx : h x = some (.inr (0, [.ref b, .ref xf, .ref xu, .ref xo, .ref xp, .ref xe, .ref xw, .ref xl, .ref xr]))) (hu : h xu = some (.inr (10, [.int (iZ g0), .int (iZ l0), .int (iZ m0), .int (iZ s0), .ref us, .int (iZ (n : Int))]))) (hs : h us = some (.inl (G_i G, 20, .inl (iA S)))) (hn : n ≤ 20) (hS : ∀ k, k < n → 0 ≤ S k ∧ S k ≤ 216000) (hf : iR f) : Rn G M_CB_shot (rm 1 30) [.ref x, .int (iZ f)] h (fun r h' => r = some (.int (iZ (shR f n S).1)) ∧ h' xu = some (.inr (10, [.int (iZ g0), .int (iZ l0), .int (iZ m0), .int (iZ s0), .ref us, .int (iZ ((shR f n S).2.1 : Int))])) ∧ h' us = some (.inl (G_i G, 20, .inl (iA (shR f n S).2.2))) ∧ Fm [xu, us] h h') := by
  refine rn_of (by decide) (Nat.le_of_ble_eq_true rfl) ?_
  show Ev G M_CB_shot _ _ 0 [(0, .ref x), (1, .int (iZ f))] [] _ 0 0
  refine ev_aload_n d_CB_shot_0 rfl rfl ?_
  refine ev_get d_CB_shot_1 fl_CB_26 hx rfl ?_
  refine ev_iload_n d_CB_shot_4 rfl rfl ?_
  refine ev_callV M_Ru_addShot (rm 0 0) _ (As := [.int (iZ f)]) (c_Ru_addShot G h xu us g0 l0 m0 s0 f n S hu hs hn hS hf) d_CB_shot_5 mk_Ru_addShot ml_CB_148 mv_Ru_addShot hu rfl rfl rfl (Nat.le_of_ble_eq_true rfl) ⟨by decide, by decide⟩ ⟨by decide, by decide⟩ (fun r h9 hq => ?_)
  obtain ⟨rfl, q⟩ := hq
  exact ev_ireturn d_CB_shot_8 rfl (by decide) (by decide) (⟨rfl, q⟩)
set_option maxHeartbeats 4000000 in
set_option maxRecDepth 100000 in
theorem lp_Mo_shot (G : GT) (h : HM) (σ : Nat → Value) (m us : Nat) (f : Int) (n : Nat) (S : Nat → Int) (hm : h m = some (.inr (11, fsN 34 σ))) (f25 : σ 25 = .int (iZ (n : Int))) (f26 : σ 26 = .ref us) (hs : h us = some (.inl (G_i G, 20, .inl (iA S)))) (hn : n ≤ 20) (hS : ∀ k, k < n → 0 ≤ S k ∧ S k ≤ 216000) (hf : 0 ≤ f ∧ f ≤ 216000) (fm : Fm [m, us] h h) (fs : Fs [25] σ σ) : ∀ (d : Nat) (k : Nat) (b : Int), k + d = n → ((b = 0 ∧ ∀ j, j < k → S j ≠ f) ∨ (b = 1 ∧ ∃ j, j < k ∧ S j = f)) → Ev G M_Mo_shot (rm 0 0) (fun r h' => r = some (.int (iZ (shR f n S).1)) ∧ (∃ σ', h' m = some (.inr (11, fsN 34 σ')) ∧ σ' 25 = .int (iZ ((shR f n S).2.1 : Int)) ∧ Fs [25] σ σ') ∧ h' us = some (.inl (G_i G, 20, .inl (iA (shR f n S).2.2))) ∧ Fm [m, us] h h') 17 [(0, .ref m), (1, .int (iZ f)), (2, .int (iZ b)), (3, .int (iZ (k : Int)))] [] h 0 0 := by
  intro d
  induction d using Nat.strongRecOn with
  | ind d ih =>
  intro k b hk hb
  have rb : b = 0 ∨ b = 1 := by rcases hb with q | q; exact Or.inl q.1; exact Or.inr q.1
  refine ev_iload_n d_Mo_shot_17 rfl rfl ?_
  refine ev_aload_n d_Mo_shot_18 rfl rfl ?_
  refine ev_getF d_Mo_shot_19 fl_Mo_227 hm (by decide) f25 ?_
  refine ez_icmp_ge (tgt := 51) (by omega) (by omega) d_Mo_shot_22 rfl (fun c22 => ?_) (fun c22 => ?_)
  · refine ev_iload_n d_Mo_shot_51 rfl rfl ?_
    refine ez_if_ne (tgt := 67) (by omega) d_Mo_shot_52 rfl (fun c52 => ?_) (fun c52 => ?_)
    · refine ev_iload_n d_Mo_shot_67 rfl rfl ?_
      refine ez_if_ne (tgt := 91) (by omega) d_Mo_shot_68 rfl (fun c68 => ?_) (fun c68 => ?_)
      · refine ev_aload_n d_Mo_shot_91 rfl rfl ?_
        refine ev_getF d_Mo_shot_92 fl_Mo_227 hm (by decide) f25 ?_
        exact ev_ireturn d_Mo_shot_95 rfl (by decide) (by decide) (⟨by rw [shR_has (by omega) (by rcases hb with ⟨rfl, q⟩ | ⟨rfl, k9, q1, q2⟩; omega; exact ⟨k9, by omega, q2⟩)], ⟨σ, hm, by rw [shR_has (by omega) (by rcases hb with ⟨rfl, q⟩ | ⟨rfl, k9, q1, q2⟩; omega; exact ⟨k9, by omega, q2⟩)]; exact f25, fs⟩, by rw [shR_has (by omega) (by rcases hb with ⟨rfl, q⟩ | ⟨rfl, k9, q1, q2⟩; omega; exact ⟨k9, by omega, q2⟩)]; exact hs, fm⟩)
      · refine ev_aload_n d_Mo_shot_71 rfl rfl ?_
        refine ev_getF d_Mo_shot_72 fl_Mo_60 hm (by decide) f26 ?_
        refine ev_aload_n d_Mo_shot_75 rfl rfl ?_
        refine ev_getF d_Mo_shot_76 fl_Mo_227 hm (by decide) f25 ?_
        refine ev_iload_n d_Mo_shot_79 rfl rfl ?_
        refine ez_iastore (F' := zup S n f) n d_Mo_shot_80 hs (by omega) (by omega) (by decide) rfl (fun h1 h1a h1o => ?_)
        have hm := (h1o _ (cne hm hs (by simp))).trans hm
        have hs := h1a
        have fm := fm.step (by simp) h1o
        refine ev_aload_n d_Mo_shot_81 rfl rfl ?_
        refine ev_dup d_Mo_shot_82 rfl ?_
        refine ev_getF d_Mo_shot_83 fl_Mo_227 hm (by decide) f25 ?_
        refine ev_iconst (v := iZ 1) d_Mo_shot_86 rfl ?_
        refine ez_iadd d_Mo_shot_87 ?_
        refine ev_putF2 d_Mo_shot_88 fw_Mo_227 (Or.inr (fun _ _ _ q => by cases q; rfl)) hm (by decide) rfl rfl (fun h2 σ3 h2a σ3j σ3o h2o => ?_)
        have f26 := (σ3o 26 (by decide)).trans f26
        have f25 := σ3j
        have fs := fs.step (by simp) σ3o
        have hs := (h2o _ (cne hs hm (by simp))).trans hs
        have hm := h2a
        have fm := fm.step (by simp) h2o
        refine ev_aload_n d_Mo_shot_91 rfl rfl ?_
        refine ev_getF d_Mo_shot_92 fl_Mo_227 hm (by decide) f25 ?_
        exact ev_ireturn d_Mo_shot_95 rfl (by decide) (by decide) (⟨by rw [shR_new (by omega) (shHas_no (by rcases hb with ⟨rfl, q⟩ | ⟨rfl, q⟩; exact fun j hj => q j (by omega); omega)) (by omega)], ⟨σ3, hm, by rw [shR_new (by omega) (shHas_no (by rcases hb with ⟨rfl, q⟩ | ⟨rfl, q⟩; exact fun j hj => q j (by omega); omega)) (by omega)]; exact f25, fs⟩, by rw [shR_new (by omega) (shHas_no (by rcases hb with ⟨rfl, q⟩ | ⟨rfl, q⟩; exact fun j hj => q j (by omega); omega)) (by omega)]; exact hs, fm⟩)
    · refine ev_aload_n d_Mo_shot_55 rfl rfl ?_
      refine ev_getF d_Mo_shot_56 fl_Mo_227 hm (by decide) f25 ?_
      refine ev_bipush (v := iZ 20) d_Mo_shot_59 rfl ?_
      refine ez_icmp_ne (tgt := 67) (by omega) (by decide) d_Mo_shot_61 rfl (fun c61 => ?_) (fun c61 => ?_)
      · refine ev_iload_n d_Mo_shot_67 rfl rfl ?_
        refine ez_if_ne (tgt := 91) (by omega) d_Mo_shot_68 rfl (fun c68 => ?_) (fun c68 => ?_)
        · refine ev_aload_n d_Mo_shot_91 rfl rfl ?_
          refine ev_getF d_Mo_shot_92 fl_Mo_227 hm (by decide) f25 ?_
          exact ev_ireturn d_Mo_shot_95 rfl (by decide) (by decide) (⟨by rw [shR_has (by omega) (by rcases hb with ⟨rfl, q⟩ | ⟨rfl, k9, q1, q2⟩; omega; exact ⟨k9, by omega, q2⟩)], ⟨σ, hm, by rw [shR_has (by omega) (by rcases hb with ⟨rfl, q⟩ | ⟨rfl, k9, q1, q2⟩; omega; exact ⟨k9, by omega, q2⟩)]; exact f25, fs⟩, by rw [shR_has (by omega) (by rcases hb with ⟨rfl, q⟩ | ⟨rfl, k9, q1, q2⟩; omega; exact ⟨k9, by omega, q2⟩)]; exact hs, fm⟩)
        · refine ev_aload_n d_Mo_shot_71 rfl rfl ?_
          refine ev_getF d_Mo_shot_72 fl_Mo_60 hm (by decide) f26 ?_
          refine ev_aload_n d_Mo_shot_75 rfl rfl ?_
          refine ev_getF d_Mo_shot_76 fl_Mo_227 hm (by decide) f25 ?_
          refine ev_iload_n d_Mo_shot_79 rfl rfl ?_
          refine ez_iastore (F' := zup S n f) n d_Mo_shot_80 hs (by omega) (by omega) (by decide) rfl (fun h4 h4a h4o => ?_)
          have hm := (h4o _ (cne hm hs (by simp))).trans hm
          have hs := h4a
          have fm := fm.step (by simp) h4o
          refine ev_aload_n d_Mo_shot_81 rfl rfl ?_
          refine ev_dup d_Mo_shot_82 rfl ?_
          refine ev_getF d_Mo_shot_83 fl_Mo_227 hm (by decide) f25 ?_
          refine ev_iconst (v := iZ 1) d_Mo_shot_86 rfl ?_
          refine ez_iadd d_Mo_shot_87 ?_
          refine ev_putF2 d_Mo_shot_88 fw_Mo_227 (Or.inr (fun _ _ _ q => by cases q; rfl)) hm (by decide) rfl rfl (fun h5 σ6 h5a σ6j σ6o h5o => ?_)
          have f26 := (σ6o 26 (by decide)).trans f26
          have f25 := σ6j
          have fs := fs.step (by simp) σ6o
          have hs := (h5o _ (cne hs hm (by simp))).trans hs
          have hm := h5a
          have fm := fm.step (by simp) h5o
          refine ev_aload_n d_Mo_shot_91 rfl rfl ?_
          refine ev_getF d_Mo_shot_92 fl_Mo_227 hm (by decide) f25 ?_
          exact ev_ireturn d_Mo_shot_95 rfl (by decide) (by decide) (⟨by rw [shR_new (by omega) (shHas_no (by rcases hb with ⟨rfl, q⟩ | ⟨rfl, q⟩; exact fun j hj => q j (by omega); omega)) (by omega)], ⟨σ6, hm, by rw [shR_new (by omega) (shHas_no (by rcases hb with ⟨rfl, q⟩ | ⟨rfl, q⟩; exact fun j hj => q j (by omega); omega)) (by omega)]; exact f25, fs⟩, by rw [shR_new (by omega) (shHas_no (by rcases hb with ⟨rfl, q⟩ | ⟨rfl, q⟩; exact fun j hj => q j (by omega); omega)) (by omega)]; exact hs, fm⟩)
      · refine ev_bipush (v := iZ (-3)) d_Mo_shot_64 rfl ?_
        exact ev_ireturn d_Mo_shot_66 rfl (by decide) (by decide) (⟨by rw [shR_full (by omega) (shHas_no (by rcases hb with ⟨rfl, q⟩ | ⟨rfl, q⟩; exact fun j hj => q j (by omega); omega)) (by omega)], ⟨σ, hm, by rw [shR_full (by omega) (shHas_no (by rcases hb with ⟨rfl, q⟩ | ⟨rfl, q⟩; exact fun j hj => q j (by omega); omega)) (by omega)]; exact f25, fs⟩, by rw [shR_full (by omega) (shHas_no (by rcases hb with ⟨rfl, q⟩ | ⟨rfl, q⟩; exact fun j hj => q j (by omega); omega)) (by omega)]; exact hs, fm⟩)
  · refine ev_iload_n d_Mo_shot_25 rfl rfl ?_
    refine ez_if_ne (tgt := 39) (by omega) d_Mo_shot_26 rfl (fun c26 => ?_) (fun c26 => ?_)
    · refine ev_iconst (v := iZ 1) d_Mo_shot_39 rfl ?_
      refine ev_goto (tgt := 44) d_Mo_shot_40 rfl ?_
      refine ev_istore_n (L' := [(0, .ref m), (1, .int (iZ f)), (2, .int (iZ 1)), (3, .int (iZ (k : Int)))]) d_Mo_shot_44 rfl (by decide) rfl ?_
      refine ez_iinc (L' := [(0, .ref m), (1, .int (iZ f)), (2, .int (iZ 1)), (3, .int (iZ ((k + 1 : Nat) : Int)))]) d_Mo_shot_45 rfl (by decide) rfl ?_
      refine ev_goto (tgt := 17) d_Mo_shot_48 rfl ?_
      exact ih (d - 1) (by omega) (k + 1) 1 (by omega) (Or.inr ⟨rfl, by rcases hb with ⟨rfl, q⟩ | ⟨rfl, k9, q1, q2⟩; exact ⟨k, by omega, by omega⟩; exact ⟨k9, by omega, q2⟩⟩)
    · refine ev_aload_n d_Mo_shot_29 rfl rfl ?_
      refine ev_getF d_Mo_shot_30 fl_Mo_60 hm (by decide) f26 ?_
      refine ev_iload_n d_Mo_shot_33 rfl rfl ?_
      have rg := hS k (by omega)
      refine ez_iaload k d_Mo_shot_34 hs (by omega) (by omega) (by decide) ?_
      refine ev_iload_n d_Mo_shot_35 rfl rfl ?_
      refine ez_icmp_ne (tgt := 43) (by omega) (by omega) d_Mo_shot_36 rfl (fun c36 => ?_) (fun c36 => ?_)
      · refine ev_iconst (v := iZ 0) d_Mo_shot_43 rfl ?_
        refine ev_istore_n (L' := [(0, .ref m), (1, .int (iZ f)), (2, .int (iZ 0)), (3, .int (iZ (k : Int)))]) d_Mo_shot_44 rfl (by decide) rfl ?_
        refine ez_iinc (L' := [(0, .ref m), (1, .int (iZ f)), (2, .int (iZ 0)), (3, .int (iZ ((k + 1 : Nat) : Int)))]) d_Mo_shot_45 rfl (by decide) rfl ?_
        refine ev_goto (tgt := 17) d_Mo_shot_48 rfl ?_
        exact ih (d - 1) (by omega) (k + 1) 0 (by omega) (Or.inl ⟨rfl, fun j hj => by rcases hb with ⟨rfl, q⟩ | ⟨rfl, q⟩; rcases Nat.lt_succ_iff_lt_or_eq.mp hj with w | rfl; exact q j w; exact c36; omega⟩)
      · refine ev_iconst (v := iZ 1) d_Mo_shot_39 rfl ?_
        refine ev_goto (tgt := 44) d_Mo_shot_40 rfl ?_
        refine ev_istore_n (L' := [(0, .ref m), (1, .int (iZ f)), (2, .int (iZ 1)), (3, .int (iZ (k : Int)))]) d_Mo_shot_44 rfl (by decide) rfl ?_
        refine ez_iinc (L' := [(0, .ref m), (1, .int (iZ f)), (2, .int (iZ 1)), (3, .int (iZ ((k + 1 : Nat) : Int)))]) d_Mo_shot_45 rfl (by decide) rfl ?_
        refine ev_goto (tgt := 17) d_Mo_shot_48 rfl ?_
        exact ih (d - 1) (by omega) (k + 1) 1 (by omega) (Or.inr ⟨rfl, by rcases hb with ⟨rfl, q⟩ | ⟨rfl, k9, q1, q2⟩; exact ⟨k, by omega, by omega⟩; exact ⟨k9, by omega, q2⟩⟩)
set_option maxHeartbeats 4000000 in
set_option maxRecDepth 100000 in
theorem c_Mo_shot (G : GT) (h : HM) (σ : Nat → Value) (m us : Nat) (f : Int) (n : Nat) (S : Nat → Int) (hm : h m = some (.inr (11, fsN 34 σ))) (f25 : σ 25 = .int (iZ (n : Int))) (f26 : σ 26 = .ref us) (hs : h us = some (.inl (G_i G, 20, .inl (iA S)))) (hn : n ≤ 20) (hS : ∀ k, k < n → 0 ≤ S k ∧ S k ≤ 216000) (hf : iR f) : Rn G M_Mo_shot (rm 0 0) [.ref m, .int (iZ f)] h (fun r h' => r = some (.int (iZ (shR f n S).1)) ∧ (∃ σ', h' m = some (.inr (11, fsN 34 σ')) ∧ σ' 25 = .int (iZ ((shR f n S).2.1 : Int)) ∧ Fs [25] σ σ') ∧ h' us = some (.inl (G_i G, 20, .inl (iA (shR f n S).2.2))) ∧ Fm [m, us] h h') := by
  refine rn_of (by decide) (Nat.le_of_ble_eq_true rfl) ?_
  show Ev G M_Mo_shot _ _ 0 [(0, .ref m), (1, .int (iZ f))] [] _ 0 0
  refine ev_iload_n d_Mo_shot_0 rfl rfl ?_
  refine ez_if_lt (tgt := 10) (by omega) d_Mo_shot_1 rfl (fun c1 => ?_) (fun c1 => ?_)
  · refine ev_bipush (v := iZ (-2)) d_Mo_shot_10 rfl ?_
    exact ev_ireturn d_Mo_shot_12 rfl (by decide) (by decide) (⟨by rw [shR_bad (by omega)], ⟨σ, hm, by rw [shR_bad (by omega)]; exact f25, Fs.rf⟩, by rw [shR_bad (by omega)]; exact hs, Fm.rf⟩)
  · refine ev_iload_n d_Mo_shot_4 rfl rfl ?_
    refine ev_ldc (v := iZ 216000) d_Mo_shot_5 kc_Mo_226 ?_
    refine ez_icmp_le (tgt := 13) (by omega) (by decide) d_Mo_shot_7 rfl (fun c7 => ?_) (fun c7 => ?_)
    · refine ev_iconst (v := iZ 0) d_Mo_shot_13 rfl ?_
      refine ev_istore_n (L' := [(0, .ref m), (1, .int (iZ f)), (2, .int (iZ 0))]) d_Mo_shot_14 rfl (by decide) rfl ?_
      refine ev_iconst (v := iZ 0) d_Mo_shot_15 rfl ?_
      refine ev_istore_n (L' := [(0, .ref m), (1, .int (iZ f)), (2, .int (iZ 0)), (3, .int (iZ 0))]) d_Mo_shot_16 rfl (by decide) rfl ?_
      exact lp_Mo_shot G h σ m us f n S hm f25 f26 hs hn hS (by omega) Fm.rf Fs.rf n 0 0 (by omega) (Or.inl ⟨rfl, fun j hj => absurd hj (by omega)⟩)
    · refine ev_bipush (v := iZ (-2)) d_Mo_shot_10 rfl ?_
      exact ev_ireturn d_Mo_shot_12 rfl (by decide) (by decide) (⟨by rw [shR_bad (by omega)], ⟨σ, hm, by rw [shR_bad (by omega)]; exact f25, Fs.rf⟩, by rw [shR_bad (by omega)]; exact hs, Fm.rf⟩)
set_option maxHeartbeats 4000000 in
set_option maxRecDepth 100000 in
theorem c_Fr_holds (G : GT) (h : HM) (xf : Nat) (num den tk f : Int) (hf : h xf = some (.inr (5, [.int (iZ num), .int (iZ den), .long (lZ tk)]))) (hfr : iR f) (hmul : -9000000000000000000 < f * tk ∧ f * tk < 9000000000000000000) : Rn G M_Fr_holds (rm 0 0) [.ref xf, .int (iZ f)] h (Pu (.int (iZ (holdZ tk f))) h) := by
  refine rn_of (by decide) (Nat.le_of_ble_eq_true rfl) ?_
  show Ev G M_Fr_holds _ _ 0 [(0, .ref xf), (1, .int (iZ f))] [] _ 0 0
  refine ev_iload_n d_Fr_holds_0 rfl rfl ?_
  refine ez_if_lt (tgt := 22) (by omega) d_Fr_holds_1 rfl (fun c1 => ?_) (fun c1 => ?_)
  · refine ev_iconst (v := iZ 0) d_Fr_holds_22 rfl ?_
    exact ev_zreturn d_Fr_holds_23 rfl (Or.inl rfl) (by decide) (by decide) (⟨by rw [show (holdZ tk f : Int) = 0 from by unfold holdZ; split <;> omega], rfl⟩)
  · refine ev_iload_n d_Fr_holds_4 rfl rfl ?_
    refine ez_i2l (by omega) d_Fr_holds_5 ?_
    refine ev_aload_n d_Fr_holds_6 rfl rfl ?_
    refine ev_get d_Fr_holds_7 fl_Fr_20 hf rfl ?_
    refine ez_lmul d_Fr_holds_10 ?_
    refine ev_ldc2 (v := lZ 2540160000000) d_Fr_holds_11 kc_Fr_27 ?_
    refine ev_lcmp d_Fr_holds_14 ?_
    refine ez_lif_gt (tgt := 22) (by omega) (by decide) d_Fr_holds_15 rfl (fun c15 => ?_) (fun c15 => ?_)
    · refine ev_iconst (v := iZ 0) d_Fr_holds_22 rfl ?_
      exact ev_zreturn d_Fr_holds_23 rfl (Or.inl rfl) (by decide) (by decide) (⟨by rw [show (holdZ tk f : Int) = 0 from by unfold holdZ; split <;> omega], rfl⟩)
    · refine ev_iconst (v := iZ 1) d_Fr_holds_18 rfl ?_
      refine ev_goto (tgt := 23) d_Fr_holds_19 rfl ?_
      exact ev_zreturn d_Fr_holds_23 rfl (Or.inr rfl) (by decide) (by decide) (⟨by rw [show (holdZ tk f : Int) = 1 from by unfold holdZ; split <;> omega], rfl⟩)
