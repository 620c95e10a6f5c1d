theorem d_Ro_move_0 : decode M_Ro_move.2.1 0 = .ok (.aload_n 0, 1) := by decide +kernel
theorem d_Ro_move_1 : decode M_Ro_move.2.1 1 = .ok (.getfield 25, 3) := by decide +kernel
theorem d_Ro_move_4 : decode M_Ro_move.2.1 4 = .ok (.iload_n 1, 1) := by decide +kernel
theorem d_Ro_move_5 : decode M_Ro_move.2.1 5 = .ok (.isub, 1) := by decide +kernel
theorem d_Ro_move_6 : decode M_Ro_move.2.1 6 = .ok (.istore_n 3, 1) := by decide +kernel
theorem d_Ro_move_7 : decode M_Ro_move.2.1 7 = .ok (.aload_n 0, 1) := by decide +kernel
theorem d_Ro_move_8 : decode M_Ro_move.2.1 8 = .ok (.getfield 9, 3) := by decide +kernel
theorem d_Ro_move_11 : decode M_Ro_move.2.1 11 = .ok (.iload_n 1, 1) := by decide +kernel
theorem d_Ro_move_12 : decode M_Ro_move.2.1 12 = .ok (.aload_n 0, 1) := by decide +kernel
theorem d_Ro_move_13 : decode M_Ro_move.2.1 13 = .ok (.getfield 9, 3) := by decide +kernel
theorem d_Ro_move_16 : decode M_Ro_move.2.1 16 = .ok (.iload_n 2, 1) := by decide +kernel
theorem d_Ro_move_17 : decode M_Ro_move.2.1 17 = .ok (.iload_n 3, 1) := by decide +kernel
theorem d_Ro_move_18 : decode M_Ro_move.2.1 18 = .ok (.invokestatic 44, 3) := by decide +kernel
theorem d_Ro_move_21 : decode M_Ro_move.2.1 21 = .ok (.aload_n 0, 1) := by decide +kernel
theorem d_Ro_move_22 : decode M_Ro_move.2.1 22 = .ok (.getfield 15, 3) := by decide +kernel
theorem d_Ro_move_25 : decode M_Ro_move.2.1 25 = .ok (.iload_n 1, 1) := by decide +kernel
theorem d_Ro_move_26 : decode M_Ro_move.2.1 26 = .ok (.aload_n 0, 1) := by decide +kernel
theorem d_Ro_move_27 : decode M_Ro_move.2.1 27 = .ok (.getfield 15, 3) := by decide +kernel
theorem d_Ro_move_30 : decode M_Ro_move.2.1 30 = .ok (.iload_n 2, 1) := by decide +kernel
theorem d_Ro_move_31 : decode M_Ro_move.2.1 31 = .ok (.iload_n 3, 1) := by decide +kernel
theorem d_Ro_move_32 : decode M_Ro_move.2.1 32 = .ok (.invokestatic 44, 3) := by decide +kernel
theorem d_Ro_move_35 : decode M_Ro_move.2.1 35 = .ok (.aload_n 0, 1) := by decide +kernel
theorem d_Ro_move_36 : decode M_Ro_move.2.1 36 = .ok (.getfield 18, 3) := by decide +kernel
theorem d_Ro_move_39 : decode M_Ro_move.2.1 39 = .ok (.iload_n 1, 1) := by decide +kernel
theorem d_Ro_move_40 : decode M_Ro_move.2.1 40 = .ok (.aload_n 0, 1) := by decide +kernel
theorem d_Ro_move_41 : decode M_Ro_move.2.1 41 = .ok (.getfield 18, 3) := by decide +kernel
theorem d_Ro_move_44 : decode M_Ro_move.2.1 44 = .ok (.iload_n 2, 1) := by decide +kernel
theorem d_Ro_move_45 : decode M_Ro_move.2.1 45 = .ok (.iload_n 3, 1) := by decide +kernel
theorem d_Ro_move_46 : decode M_Ro_move.2.1 46 = .ok (.invokestatic 44, 3) := by decide +kernel
theorem d_Ro_move_49 : decode M_Ro_move.2.1 49 = .ok (.aload_n 0, 1) := by decide +kernel
theorem d_Ro_move_50 : decode M_Ro_move.2.1 50 = .ok (.getfield 22, 3) := by decide +kernel
theorem d_Ro_move_53 : decode M_Ro_move.2.1 53 = .ok (.iload_n 1, 1) := by decide +kernel
theorem d_Ro_move_54 : decode M_Ro_move.2.1 54 = .ok (.bipush 64, 2) := by decide +kernel
theorem d_Ro_move_56 : decode M_Ro_move.2.1 56 = .ok (.imul, 1) := by decide +kernel
theorem d_Ro_move_57 : decode M_Ro_move.2.1 57 = .ok (.aload_n 0, 1) := by decide +kernel
theorem d_Ro_move_58 : decode M_Ro_move.2.1 58 = .ok (.getfield 22, 3) := by decide +kernel
theorem d_Ro_move_61 : decode M_Ro_move.2.1 61 = .ok (.iload_n 2, 1) := by decide +kernel
theorem d_Ro_move_62 : decode M_Ro_move.2.1 62 = .ok (.bipush 64, 2) := by decide +kernel
theorem d_Ro_move_64 : decode M_Ro_move.2.1 64 = .ok (.imul, 1) := by decide +kernel
theorem d_Ro_move_65 : decode M_Ro_move.2.1 65 = .ok (.iload_n 3, 1) := by decide +kernel
theorem d_Ro_move_66 : decode M_Ro_move.2.1 66 = .ok (.bipush 64, 2) := by decide +kernel
theorem d_Ro_move_68 : decode M_Ro_move.2.1 68 = .ok (.imul, 1) := by decide +kernel
theorem d_Ro_move_69 : decode M_Ro_move.2.1 69 = .ok (.invokestatic 44, 3) := by decide +kernel
theorem d_Ro_move_72 : decode M_Ro_move.2.1 72 = .ok (.return_, 1) := by decide +kernel
theorem d_Ro_joinWithNext_0 : decode M_Ro_joinWithNext.2.1 0 = .ok (.iload_n 1, 1) := by decide +kernel
theorem d_Ro_joinWithNext_1 : decode M_Ro_joinWithNext.2.1 1 = .ok (.bipush 64, 2) := by decide +kernel
theorem d_Ro_joinWithNext_3 : decode M_Ro_joinWithNext.2.1 3 = .ok (.imul, 1) := by decide +kernel
theorem d_Ro_joinWithNext_4 : decode M_Ro_joinWithNext.2.1 4 = .ok (.aload_n 0, 1) := by decide +kernel
theorem d_Ro_joinWithNext_5 : decode M_Ro_joinWithNext.2.1 5 = .ok (.getfield 18, 3) := by decide +kernel
theorem d_Ro_joinWithNext_8 : decode M_Ro_joinWithNext.2.1 8 = .ok (.iload_n 1, 1) := by decide +kernel
theorem d_Ro_joinWithNext_9 : decode M_Ro_joinWithNext.2.1 9 = .ok (.iaload, 1) := by decide +kernel
theorem d_Ro_joinWithNext_10 : decode M_Ro_joinWithNext.2.1 10 = .ok (.iadd, 1) := by decide +kernel
theorem d_Ro_joinWithNext_11 : decode M_Ro_joinWithNext.2.1 11 = .ok (.istore_n 2, 1) := by decide +kernel
theorem d_Ro_joinWithNext_12 : decode M_Ro_joinWithNext.2.1 12 = .ok (.aload_n 0, 1) := by decide +kernel
theorem d_Ro_joinWithNext_13 : decode M_Ro_joinWithNext.2.1 13 = .ok (.getfield 22, 3) := by decide +kernel
theorem d_Ro_joinWithNext_16 : decode M_Ro_joinWithNext.2.1 16 = .ok (.iload_n 2, 1) := by decide +kernel
theorem d_Ro_joinWithNext_17 : decode M_Ro_joinWithNext.2.1 17 = .ok (.bipush 10, 2) := by decide +kernel
theorem d_Ro_joinWithNext_19 : decode M_Ro_joinWithNext.2.1 19 = .ok (.iastore, 1) := by decide +kernel
theorem d_Ro_joinWithNext_20 : decode M_Ro_joinWithNext.2.1 20 = .ok (.aload_n 0, 1) := by decide +kernel
theorem d_Ro_joinWithNext_21 : decode M_Ro_joinWithNext.2.1 21 = .ok (.getfield 22, 3) := by decide +kernel
theorem d_Ro_joinWithNext_24 : decode M_Ro_joinWithNext.2.1 24 = .ok (.iload_n 1, 1) := by decide +kernel
theorem d_Ro_joinWithNext_25 : decode M_Ro_joinWithNext.2.1 25 = .ok (.iconst 1, 1) := by decide +kernel
theorem d_Ro_joinWithNext_26 : decode M_Ro_joinWithNext.2.1 26 = .ok (.iadd, 1) := by decide +kernel
theorem d_Ro_joinWithNext_27 : decode M_Ro_joinWithNext.2.1 27 = .ok (.bipush 64, 2) := by decide +kernel
theorem d_Ro_joinWithNext_29 : decode M_Ro_joinWithNext.2.1 29 = .ok (.imul, 1) := by decide +kernel
theorem d_Ro_joinWithNext_30 : decode M_Ro_joinWithNext.2.1 30 = .ok (.aload_n 0, 1) := by decide +kernel
theorem d_Ro_joinWithNext_31 : decode M_Ro_joinWithNext.2.1 31 = .ok (.getfield 22, 3) := by decide +kernel
theorem d_Ro_joinWithNext_34 : decode M_Ro_joinWithNext.2.1 34 = .ok (.iload_n 2, 1) := by decide +kernel
theorem d_Ro_joinWithNext_35 : decode M_Ro_joinWithNext.2.1 35 = .ok (.iconst 1, 1) := by decide +kernel
theorem d_Ro_joinWithNext_36 : decode M_Ro_joinWithNext.2.1 36 = .ok (.iadd, 1) := by decide +kernel
theorem d_Ro_joinWithNext_37 : decode M_Ro_joinWithNext.2.1 37 = .ok (.aload_n 0, 1) := by decide +kernel
theorem d_Ro_joinWithNext_38 : decode M_Ro_joinWithNext.2.1 38 = .ok (.getfield 18, 3) := by decide +kernel
theorem d_Ro_joinWithNext_41 : decode M_Ro_joinWithNext.2.1 41 = .ok (.iload_n 1, 1) := by decide +kernel
theorem d_Ro_joinWithNext_42 : decode M_Ro_joinWithNext.2.1 42 = .ok (.iconst 1, 1) := by decide +kernel
theorem d_Ro_joinWithNext_43 : decode M_Ro_joinWithNext.2.1 43 = .ok (.iadd, 1) := by decide +kernel
theorem d_Ro_joinWithNext_44 : decode M_Ro_joinWithNext.2.1 44 = .ok (.iaload, 1) := by decide +kernel
theorem d_Ro_joinWithNext_45 : decode M_Ro_joinWithNext.2.1 45 = .ok (.invokestatic 44, 3) := by decide +kernel
theorem d_Ro_joinWithNext_48 : decode M_Ro_joinWithNext.2.1 48 = .ok (.aload_n 0, 1) := by decide +kernel
theorem d_Ro_joinWithNext_49 : decode M_Ro_joinWithNext.2.1 49 = .ok (.getfield 18, 3) := by decide +kernel
theorem d_Ro_joinWithNext_52 : decode M_Ro_joinWithNext.2.1 52 = .ok (.iload_n 1, 1) := by decide +kernel
theorem d_Ro_joinWithNext_53 : decode M_Ro_joinWithNext.2.1 53 = .ok (.dup2, 1) := by decide +kernel
theorem d_Ro_joinWithNext_54 : decode M_Ro_joinWithNext.2.1 54 = .ok (.iaload, 1) := by decide +kernel
theorem d_Ro_joinWithNext_55 : decode M_Ro_joinWithNext.2.1 55 = .ok (.iconst 1, 1) := by decide +kernel
theorem d_Ro_joinWithNext_56 : decode M_Ro_joinWithNext.2.1 56 = .ok (.aload_n 0, 1) := by decide +kernel
theorem d_Ro_joinWithNext_57 : decode M_Ro_joinWithNext.2.1 57 = .ok (.getfield 18, 3) := by decide +kernel
theorem d_Ro_joinWithNext_60 : decode M_Ro_joinWithNext.2.1 60 = .ok (.iload_n 1, 1) := by decide +kernel
theorem d_Ro_joinWithNext_61 : decode M_Ro_joinWithNext.2.1 61 = .ok (.iconst 1, 1) := by decide +kernel
theorem d_Ro_joinWithNext_62 : decode M_Ro_joinWithNext.2.1 62 = .ok (.iadd, 1) := by decide +kernel
theorem d_Ro_joinWithNext_63 : decode M_Ro_joinWithNext.2.1 63 = .ok (.iaload, 1) := by decide +kernel
theorem d_Ro_joinWithNext_64 : decode M_Ro_joinWithNext.2.1 64 = .ok (.iadd, 1) := by decide +kernel
theorem d_Ro_joinWithNext_65 : decode M_Ro_joinWithNext.2.1 65 = .ok (.iadd, 1) := by decide +kernel
theorem d_Ro_joinWithNext_66 : decode M_Ro_joinWithNext.2.1 66 = .ok (.iastore, 1) := by decide +kernel
theorem d_Ro_joinWithNext_67 : decode M_Ro_joinWithNext.2.1 67 = .ok (.aload_n 0, 1) := by decide +kernel
theorem d_Ro_joinWithNext_68 : decode M_Ro_joinWithNext.2.1 68 = .ok (.getfield 15, 3) := by decide +kernel
theorem d_Ro_joinWithNext_71 : decode M_Ro_joinWithNext.2.1 71 = .ok (.iload_n 1, 1) := by decide +kernel
theorem d_Ro_joinWithNext_72 : decode M_Ro_joinWithNext.2.1 72 = .ok (.aload_n 0, 1) := by decide +kernel
theorem d_Ro_joinWithNext_73 : decode M_Ro_joinWithNext.2.1 73 = .ok (.getfield 15, 3) := by decide +kernel
theorem d_Ro_joinWithNext_76 : decode M_Ro_joinWithNext.2.1 76 = .ok (.iload_n 1, 1) := by decide +kernel
theorem d_Ro_joinWithNext_77 : decode M_Ro_joinWithNext.2.1 77 = .ok (.laload, 1) := by decide +kernel
theorem d_Ro_joinWithNext_78 : decode M_Ro_joinWithNext.2.1 78 = .ok (.aload_n 0, 1) := by decide +kernel
theorem d_Ro_joinWithNext_79 : decode M_Ro_joinWithNext.2.1 79 = .ok (.getfield 15, 3) := by decide +kernel
theorem d_Ro_joinWithNext_82 : decode M_Ro_joinWithNext.2.1 82 = .ok (.iload_n 1, 1) := by decide +kernel
theorem d_Ro_joinWithNext_83 : decode M_Ro_joinWithNext.2.1 83 = .ok (.iconst 1, 1) := by decide +kernel
theorem d_Ro_joinWithNext_84 : decode M_Ro_joinWithNext.2.1 84 = .ok (.iadd, 1) := by decide +kernel
theorem d_Ro_joinWithNext_85 : decode M_Ro_joinWithNext.2.1 85 = .ok (.laload, 1) := by decide +kernel
theorem d_Ro_joinWithNext_86 : decode M_Ro_joinWithNext.2.1 86 = .ok (.invokestatic 52, 3) := by decide +kernel
theorem d_Ro_joinWithNext_89 : decode M_Ro_joinWithNext.2.1 89 = .ok (.lastore, 1) := by decide +kernel
theorem d_Ro_joinWithNext_90 : decode M_Ro_joinWithNext.2.1 90 = .ok (.aload_n 0, 1) := by decide +kernel
theorem d_Ro_joinWithNext_91 : decode M_Ro_joinWithNext.2.1 91 = .ok (.iload_n 1, 1) := by decide +kernel
theorem d_Ro_joinWithNext_92 : decode M_Ro_joinWithNext.2.1 92 = .ok (.iconst 2, 1) := by decide +kernel
theorem d_Ro_joinWithNext_93 : decode M_Ro_joinWithNext.2.1 93 = .ok (.iadd, 1) := by decide +kernel
theorem d_Ro_joinWithNext_94 : decode M_Ro_joinWithNext.2.1 94 = .ok (.iload_n 1, 1) := by decide +kernel
theorem d_Ro_joinWithNext_95 : decode M_Ro_joinWithNext.2.1 95 = .ok (.iconst 1, 1) := by decide +kernel
theorem d_Ro_joinWithNext_96 : decode M_Ro_joinWithNext.2.1 96 = .ok (.iadd, 1) := by decide +kernel
theorem d_Ro_joinWithNext_97 : decode M_Ro_joinWithNext.2.1 97 = .ok (.invokevirtual 58, 3) := by decide +kernel
theorem d_Ro_joinWithNext_100 : decode M_Ro_joinWithNext.2.1 100 = .ok (.aload_n 0, 1) := by decide +kernel
theorem d_Ro_joinWithNext_101 : decode M_Ro_joinWithNext.2.1 101 = .ok (.dup, 1) := by decide +kernel
theorem d_Ro_joinWithNext_102 : decode M_Ro_joinWithNext.2.1 102 = .ok (.getfield 25, 3) := by decide +kernel
theorem d_Ro_joinWithNext_105 : decode M_Ro_joinWithNext.2.1 105 = .ok (.iconst 1, 1) := by decide +kernel
theorem d_Ro_joinWithNext_106 : decode M_Ro_joinWithNext.2.1 106 = .ok (.isub, 1) := by decide +kernel
theorem d_Ro_joinWithNext_107 : decode M_Ro_joinWithNext.2.1 107 = .ok (.putfield 25, 3) := by decide +kernel
theorem d_Ro_joinWithNext_110 : decode M_Ro_joinWithNext.2.1 110 = .ok (.return_, 1) := by decide +kernel
theorem d_CB_merge_0 : decode M_CB_merge.2.1 0 = .ok (.aload_n 0, 1) := by decide +kernel
theorem d_CB_merge_1 : decode M_CB_merge.2.1 1 = .ok (.getfield 33, 3) := by decide +kernel
theorem d_CB_merge_4 : decode M_CB_merge.2.1 4 = .ok (.iload_n 1, 1) := by decide +kernel
theorem d_CB_merge_5 : decode M_CB_merge.2.1 5 = .ok (.invokevirtual 121, 3) := by decide +kernel
theorem d_CB_merge_8 : decode M_CB_merge.2.1 8 = .ok (.ifCond .eq 16, 3) := by decide +kernel
theorem d_CB_merge_11 : decode M_CB_merge.2.1 11 = .ok (.iload_n 1, 1) := by decide +kernel
theorem d_CB_merge_12 : decode M_CB_merge.2.1 12 = .ok (.iconst 1, 1) := by decide +kernel
theorem d_CB_merge_13 : decode M_CB_merge.2.1 13 = .ok (.iadd, 1) := by decide +kernel
theorem d_CB_merge_14 : decode M_CB_merge.2.1 14 = .ok (.aload_n 0, 1) := by decide +kernel
theorem d_CB_merge_15 : decode M_CB_merge.2.1 15 = .ok (.getfield 33, 3) := by decide +kernel
theorem d_CB_merge_18 : decode M_CB_merge.2.1 18 = .ok (.getfield 112, 3) := by decide +kernel
theorem d_CB_merge_21 : decode M_CB_merge.2.1 21 = .ok (.if_icmp .lt 6, 3) := by decide +kernel
theorem d_CB_merge_24 : decode M_CB_merge.2.1 24 = .ok (.bipush (-2), 2) := by decide +kernel
theorem d_CB_merge_26 : decode M_CB_merge.2.1 26 = .ok (.ireturn, 1) := by decide +kernel
theorem d_CB_merge_27 : decode M_CB_merge.2.1 27 = .ok (.aload_n 0, 1) := by decide +kernel
theorem d_CB_merge_28 : decode M_CB_merge.2.1 28 = .ok (.getfield 33, 3) := by decide +kernel
theorem d_CB_merge_31 : decode M_CB_merge.2.1 31 = .ok (.getfield 133, 3) := by decide +kernel
theorem d_CB_merge_34 : decode M_CB_merge.2.1 34 = .ok (.iload_n 1, 1) := by decide +kernel
theorem d_CB_merge_35 : decode M_CB_merge.2.1 35 = .ok (.iaload, 1) := by decide +kernel
theorem d_CB_merge_36 : decode M_CB_merge.2.1 36 = .ok (.iconst 1, 1) := by decide +kernel
theorem d_CB_merge_37 : decode M_CB_merge.2.1 37 = .ok (.iadd, 1) := by decide +kernel
theorem d_CB_merge_38 : decode M_CB_merge.2.1 38 = .ok (.aload_n 0, 1) := by decide +kernel
theorem d_CB_merge_39 : decode M_CB_merge.2.1 39 = .ok (.getfield 33, 3) := by decide +kernel
theorem d_CB_merge_42 : decode M_CB_merge.2.1 42 = .ok (.getfield 133, 3) := by decide +kernel
theorem d_CB_merge_45 : decode M_CB_merge.2.1 45 = .ok (.iload_n 1, 1) := by decide +kernel
theorem d_CB_merge_46 : decode M_CB_merge.2.1 46 = .ok (.iconst 1, 1) := by decide +kernel
theorem d_CB_merge_47 : decode M_CB_merge.2.1 47 = .ok (.iadd, 1) := by decide +kernel
theorem d_CB_merge_48 : decode M_CB_merge.2.1 48 = .ok (.iaload, 1) := by decide +kernel
theorem d_CB_merge_49 : decode M_CB_merge.2.1 49 = .ok (.iadd, 1) := by decide +kernel
theorem d_CB_merge_50 : decode M_CB_merge.2.1 50 = .ok (.bipush 64, 2) := by decide +kernel
theorem d_CB_merge_52 : decode M_CB_merge.2.1 52 = .ok (.if_icmp .le 6, 3) := by decide +kernel
theorem d_CB_merge_55 : decode M_CB_merge.2.1 55 = .ok (.bipush (-3), 2) := by decide +kernel
theorem d_CB_merge_57 : decode M_CB_merge.2.1 57 = .ok (.ireturn, 1) := by decide +kernel
theorem d_CB_merge_58 : decode M_CB_merge.2.1 58 = .ok (.aload_n 0, 1) := by decide +kernel
theorem d_CB_merge_59 : decode M_CB_merge.2.1 59 = .ok (.getfield 40, 3) := by decide +kernel
theorem d_CB_merge_62 : decode M_CB_merge.2.1 62 = .ok (.aload_n 0, 1) := by decide +kernel
theorem d_CB_merge_63 : decode M_CB_merge.2.1 63 = .ok (.getfield 33, 3) := by decide +kernel
theorem d_CB_merge_66 : decode M_CB_merge.2.1 66 = .ok (.invokevirtual 103, 3) := by decide +kernel
theorem d_CB_merge_69 : decode M_CB_merge.2.1 69 = .ok (.aload_n 0, 1) := by decide +kernel
theorem d_CB_merge_70 : decode M_CB_merge.2.1 70 = .ok (.getfield 33, 3) := by decide +kernel
theorem d_CB_merge_73 : decode M_CB_merge.2.1 73 = .ok (.iload_n 1, 1) := by decide +kernel
theorem d_CB_merge_74 : decode M_CB_merge.2.1 74 = .ok (.invokevirtual 198, 3) := by decide +kernel
theorem d_CB_merge_77 : decode M_CB_merge.2.1 77 = .ok (.aload_n 0, 1) := by decide +kernel
theorem d_CB_merge_78 : decode M_CB_merge.2.1 78 = .ok (.getfield 33, 3) := by decide +kernel
theorem d_CB_merge_81 : decode M_CB_merge.2.1 81 = .ok (.getfield 112, 3) := by decide +kernel
theorem d_CB_merge_84 : decode M_CB_merge.2.1 84 = .ok (.ireturn, 1) := by decide +kernel
set_option maxHeartbeats 4000000 in
set_option maxRecDepth 100000 in
theorem c_Ro_move (G : GT) (h : HM) (a b : Nat) (o o1 o2 o3 o4 n : Nat) (K1 K2 K3 K4 : Nat → Int) (ho : h o = some (.inr (2, [.ref o1, .ref o2, .ref o3, .ref o4, .int (iZ (n : Int))]))) (ho1 : h o1 = some (.inl (G_j G, 16, .inr (.inl (lA K1))))) (ho2 : h o2 = some (.inl (G_j G, 16, .inr (.inl (lA K2))))) (ho3 : h o3 = some (.inl (G_i G, 16, .inl (iA K3)))) (ho4 : h o4 = some (.inl (G_i G, 1024, .inl (iA K4)))) (n_o : o1 ≠ o2) (ha : a ≤ n) (hb : b + (n - a) ≤ 16) (hn : n ≤ 16) : Rn G M_Ro_move (rm 1 40) [.ref o, .int (iZ (a : Int)), .int (iZ (b : Int))] h (fun r h' => r = none ∧ h' o = some (.inr (2, [.ref o1, .ref o2, .ref o3, .ref o4, .int (iZ (n : Int))])) ∧ h' o1 = some (.inl (G_j G, 16, .inr (.inl (lA (va_cpy K1 K1 (a) (b) ((n - a))))))) ∧ h' o2 = some (.inl (G_j G, 16, .inr (.inl (lA (va_cpy K2 K2 (a) (b) ((n - a))))))) ∧ h' o3 = some (.inl (G_i G, 16, .inl (iA (va_cpy K3 K3 (a) (b) ((n - a)))))) ∧ h' o4 = some (.inl (G_i G, 1024, .inl (iA (va_cpy K4 K4 (a * 64) (b * 64) ((n - a) * 64))))) ∧ Fm [o1, o2, o3, o4] h h') := by
  refine rn_of (by decide) (Nat.le_of_ble_eq_true rfl) ?_
  show Ev G M_Ro_move _ _ 0 [(0, .ref o), (1, .int (iZ (a : Int))), (2, .int (iZ (b : Int)))] [] _ 0 0
  have fm : Fm [o1, o2, o3, o4] h h := Fm.rf
  refine ev_aload_n d_Ro_move_0 rfl rfl ?_
  refine ev_get d_Ro_move_1 fl_Ro_25 ho rfl ?_
  refine ev_iload_n d_Ro_move_4 rfl rfl ?_
  refine ez_isub d_Ro_move_5 ?_
  rw [show ((n : Int) - (a : Int) : Int) = ((n - a : Nat) : Int) from by omega]
  refine ev_istore_n (L' := [(0, .ref o), (1, .int (iZ (a : Int))), (2, .int (iZ (b : Int))), (3, .int (iZ ((n - a : Nat) : Int)))]) d_Ro_move_6 rfl (by decide) rfl ?_
  refine ev_aload_n d_Ro_move_7 rfl rfl ?_
  refine ev_get d_Ro_move_8 fl_Ro_9 ho rfl ?_
  refine ev_iload_n d_Ro_move_11 rfl rfl ?_
  refine ev_aload_n d_Ro_move_12 rfl rfl ?_
  refine ev_get d_Ro_move_13 fl_Ro_9 ho rfl ?_
  refine ev_iload_n d_Ro_move_16 rfl rfl ?_
  refine ev_iload_n d_Ro_move_17 rfl rfl ?_
  refine ez_copyl (F' := va_cpy K1 K1 a b (n - a)) a b (n - a) d_Ro_move_18 ml_Ro_44 nat_copy sta_copy in_System ho1 ho1 (by omega) (by omega) (by omega) (by omega) (by omega) (by decide) (by decide) (by decide) (by decide) rfl (fun h1 h1a h1o => ?_)
  have ho := (h1o _ (cne ho ho1 (by simp))).trans ho
  have ho2 := (h1o _ (Ne.symm n_o)).trans ho2
  have ho3 := (h1o _ (cne ho3 ho1 (by simp))).trans ho3
  have ho4 := (h1o _ (cne ho4 ho1 (by simp))).trans ho4
  have ho1 := h1a
  have fm := fm.step (by simp) h1o
  refine ev_aload_n d_Ro_move_21 rfl rfl ?_
  refine ev_get d_Ro_move_22 fl_Ro_15 ho rfl ?_
  refine ev_iload_n d_Ro_move_25 rfl rfl ?_
  refine ev_aload_n d_Ro_move_26 rfl rfl ?_
  refine ev_get d_Ro_move_27 fl_Ro_15 ho rfl ?_
  refine ev_iload_n d_Ro_move_30 rfl rfl ?_
  refine ev_iload_n d_Ro_move_31 rfl rfl ?_
  refine ez_copyl (F' := va_cpy K2 K2 a b (n - a)) a b (n - a) d_Ro_move_32 ml_Ro_44 nat_copy sta_copy in_System ho2 ho2 (by omega) (by omega) (by omega) (by omega) (by omega) (by decide) (by decide) (by decide) (by decide) rfl (fun h2 h2a h2o => ?_)
  have ho := (h2o _ (cne ho ho2 (by simp))).trans ho
  have ho1 := (h2o _ n_o).trans ho1
  have ho3 := (h2o _ (cne ho3 ho2 (by simp))).trans ho3
  have ho4 := (h2o _ (cne ho4 ho2 (by simp))).trans ho4
  have ho2 := h2a
  have fm := fm.step (by simp) h2o
  refine ev_aload_n d_Ro_move_35 rfl rfl ?_
  refine ev_get d_Ro_move_36 fl_Ro_18 ho rfl ?_
  refine ev_iload_n d_Ro_move_39 rfl rfl ?_
  refine ev_aload_n d_Ro_move_40 rfl rfl ?_
  refine ev_get d_Ro_move_41 fl_Ro_18 ho rfl ?_
  refine ev_iload_n d_Ro_move_44 rfl rfl ?_
  refine ev_iload_n d_Ro_move_45 rfl rfl ?_
  refine ez_copyi (F' := va_cpy K3 K3 a b (n - a)) a b (n - a) d_Ro_move_46 ml_Ro_44 nat_copy sta_copy in_System ho3 ho3 (by omega) (by omega) (by omega) (by omega) (by omega) (by decide) (by decide) (by decide) (by decide) rfl (fun h3 h3a h3o => ?_)
  have ho := (h3o _ (cne ho ho3 (by simp))).trans ho
  have ho1 := (h3o _ (cne ho1 ho3 (by simp))).trans ho1
  have ho2 := (h3o _ (cne ho2 ho3 (by simp))).trans ho2
  have ho4 := (h3o _ (cne ho4 ho3 (by simp))).trans ho4
  have ho3 := h3a
  have fm := fm.step (by simp) h3o
  refine ev_aload_n d_Ro_move_49 rfl rfl ?_
  refine ev_get d_Ro_move_50 fl_Ro_22 ho rfl ?_
  refine ev_iload_n d_Ro_move_53 rfl rfl ?_
  refine ev_bipush (v := iZ 64) d_Ro_move_54 rfl ?_
  refine ez_imul d_Ro_move_56 ?_
  refine ev_aload_n d_Ro_move_57 rfl rfl ?_
  refine ev_get d_Ro_move_58 fl_Ro_22 ho rfl ?_
  refine ev_iload_n d_Ro_move_61 rfl rfl ?_
  refine ev_bipush (v := iZ 64) d_Ro_move_62 rfl ?_
  refine ez_imul d_Ro_move_64 ?_
  refine ev_iload_n d_Ro_move_65 rfl rfl ?_
  refine ev_bipush (v := iZ 64) d_Ro_move_66 rfl ?_
  refine ez_imul d_Ro_move_68 ?_
  refine ez_copyi (F' := va_cpy K4 K4 (a * 64) (b * 64) ((n - a) * 64)) (a * 64) (b * 64) ((n - a) * 64) d_Ro_move_69 ml_Ro_44 nat_copy sta_copy in_System ho4 ho4 (by omega) (by omega) (by omega) (by omega) (by omega) (by decide) (by decide) (by decide) (by decide) rfl (fun h4 h4a h4o => ?_)
  have ho := (h4o _ (cne ho ho4 (by simp))).trans ho
  have ho1 := (h4o _ (cne ho1 ho4 (by simp))).trans ho1
  have ho2 := (h4o _ (cne ho2 ho4 (by simp))).trans ho2
  have ho3 := (h4o _ (cne ho3 ho4 (by simp))).trans ho3
  have ho4 := h4a
  have fm := fm.step (by simp) h4o
  exact ev_return d_Ro_move_72 rfl (by decide) (by decide) (⟨rfl, ho, ho1, ho2, ho3, ho4, fm⟩)
set_option maxHeartbeats 4000000 in
set_option maxRecDepth 100000 in
theorem c_Ro_join (G : GT) (h : HM) (i : Nat) (o o1 o2 o3 o4 n : Nat) (K1 K2 K3 K4 : Nat → Int) (ho : h o = some (.inr (2, [.ref o1, .ref o2, .ref o3, .ref o4, .int (iZ (n : Int))]))) (ho1 : h o1 = some (.inl (G_j G, 16, .inr (.inl (lA K1))))) (ho2 : h o2 = some (.inl (G_j G, 16, .inr (.inl (lA K2))))) (ho3 : h o3 = some (.inl (G_i G, 16, .inl (iA K3)))) (ho4 : h o4 = some (.inl (G_i G, 1024, .inl (iA K4)))) (n_o : o1 ≠ o2) (hi : i + 1 < n) (hn : n ≤ 16) (hE : ∀ k, 0 ≤ K2 k ∧ K2 k ≤ 2540160000000) (hZ : ∀ k, 0 ≤ K3 k ∧ K3 k ≤ 64) (hz : K3 i + 1 + K3 (i + 1) ≤ 64) : Rn G M_Ro_joinWithNext (rm 2 70) [.ref o, .int (iZ (i : Int))] h (fun r h' => r = none ∧ h' o = some (.inr (2, [.ref o1, .ref o2, .ref o3, .ref o4, .int (iZ ((n - 1 : Nat) : Int))])) ∧ h' o1 = some (.inl (G_j G, 16, .inr (.inl (lA (va_cpy K1 K1 ((i + 2)) ((i + 1)) ((n - (i + 2)))))))) ∧ h' o2 = some (.inl (G_j G, 16, .inr (.inl (lA (va_cpy (zup K2 i (max (K2 i) (K2 (i + 1)))) (zup K2 i (max (K2 i) (K2 (i + 1)))) ((i + 2)) ((i + 1)) ((n - (i + 2)))))))) ∧ h' o3 = some (.inl (G_i G, 16, .inl (iA (va_cpy (zup K3 i ((K3 i) + (1 + (K3 (i + 1))))) (zup K3 i ((K3 i) + (1 + (K3 (i + 1))))) ((i + 2)) ((i + 1)) ((n - (i + 2))))))) ∧ h' o4 = some (.inl (G_i G, 1024, .inl (iA (va_cpy (va_cpy (zup K4 (i * 64 + (K3 i).toNat) 10) (zup K4 (i * 64 + (K3 i).toNat) 10) ((i + 1) * 64) (i * 64 + (K3 i).toNat + 1) ((K3 (i + 1)).toNat)) (va_cpy (zup K4 (i * 64 + (K3 i).toNat) 10) (zup K4 (i * 64 + (K3 i).toNat) 10) ((i + 1) * 64) (i * 64 + (K3 i).toNat + 1) ((K3 (i + 1)).toNat)) ((i + 2) * 64) ((i + 1) * 64) ((n - (i + 2)) * 64))))) ∧ Fm [o, o1, o2, o3, o4] h h') := by
  refine rn_of (by decide) (Nat.le_of_ble_eq_true rfl) ?_
  show Ev G M_Ro_joinWithNext _ _ 0 [(0, .ref o), (1, .int (iZ (i : Int)))] [] _ 0 0
  have fm : Fm [o, o1, o2, o3, o4] h h := Fm.rf
  have z0 := hZ i
  have z1 := hZ (i + 1)
  have e0 := hE i
  have e1 := hE (i + 1)
  refine ev_iload_n d_Ro_joinWithNext_0 rfl rfl ?_
  refine ev_bipush (v := iZ 64) d_Ro_joinWithNext_1 rfl ?_
  refine ez_imul d_Ro_joinWithNext_3 ?_
  refine ev_aload_n d_Ro_joinWithNext_4 rfl rfl ?_
  refine ev_get d_Ro_joinWithNext_5 fl_Ro_18 ho rfl ?_
  refine ev_iload_n d_Ro_joinWithNext_8 rfl rfl ?_
  refine ez_iaload i d_Ro_joinWithNext_9 ho3 (by omega) (by omega) (by decide) ?_
  refine ez_iadd d_Ro_joinWithNext_10 ?_
  refine ev_istore_n (L' := [(0, .ref o), (1, .int (iZ (i : Int))), (2, .int (iZ (((i : Int) * 64) + (K3 i))))]) d_Ro_joinWithNext_11 rfl (by decide) rfl ?_
  refine ev_aload_n d_Ro_joinWithNext_12 rfl rfl ?_
  refine ev_get d_Ro_joinWithNext_13 fl_Ro_22 ho rfl ?_
  refine ev_iload_n d_Ro_joinWithNext_16 rfl rfl ?_
  refine ev_bipush (v := iZ 10) d_Ro_joinWithNext_17 rfl ?_
  refine ez_iastore (F' := zup K4 (i * 64 + (K3 i).toNat) 10) (i * 64 + (K3 i).toNat) d_Ro_joinWithNext_19 ho4 (by omega) (by omega) (by decide) rfl (fun h1 h1a h1o => ?_)
  have ho := (h1o _ (cne ho ho4 (by simp))).trans ho
  have ho1 := (h1o _ (cne ho1 ho4 (by simp))).trans ho1
  have ho2 := (h1o _ (cne ho2 ho4 (by simp))).trans ho2
  have ho3 := (h1o _ (cne ho3 ho4 (by simp))).trans ho3
  have ho4 := h1a
  have fm := fm.step (by simp) h1o
  refine ev_aload_n d_Ro_joinWithNext_20 rfl rfl ?_
  refine ev_get d_Ro_joinWithNext_21 fl_Ro_22 ho rfl ?_
  refine ev_iload_n d_Ro_joinWithNext_24 rfl rfl ?_
  refine ev_iconst (v := iZ 1) d_Ro_joinWithNext_25 rfl ?_
  refine ez_iadd d_Ro_joinWithNext_26 ?_
  refine ev_bipush (v := iZ 64) d_Ro_joinWithNext_27 rfl ?_
  refine ez_imul d_Ro_joinWithNext_29 ?_
  refine ev_aload_n d_Ro_joinWithNext_30 rfl rfl ?_
  refine ev_get d_Ro_joinWithNext_31 fl_Ro_22 ho rfl ?_
  refine ev_iload_n d_Ro_joinWithNext_34 rfl rfl ?_
  refine ev_iconst (v := iZ 1) d_Ro_joinWithNext_35 rfl ?_
  refine ez_iadd d_Ro_joinWithNext_36 ?_
  refine ev_aload_n d_Ro_joinWithNext_37 rfl rfl ?_
  refine ev_get d_Ro_joinWithNext_38 fl_Ro_18 ho rfl ?_
  refine ev_iload_n d_Ro_joinWithNext_41 rfl rfl ?_
  refine ev_iconst (v := iZ 1) d_Ro_joinWithNext_42 rfl ?_
  refine ez_iadd d_Ro_joinWithNext_43 ?_
  refine ez_iaload (i + 1) d_Ro_joinWithNext_44 ho3 (by omega) (by omega) (by decide) ?_
  refine ez_copyi (F' := va_cpy (zup K4 (i * 64 + (K3 i).toNat) 10) (zup K4 (i * 64 + (K3 i).toNat) 10) ((i + 1) * 64) (i * 64 + (K3 i).toNat + 1) ((K3 (i + 1)).toNat)) ((i + 1) * 64) (i * 64 + (K3 i).toNat + 1) ((K3 (i + 1)).toNat) d_Ro_joinWithNext_45 ml_Ro_44 nat_copy sta_copy in_System ho4 ho4 (by omega) (by omega) (by omega) (by omega) (by omega) (by decide) (by decide) (by decide) (by decide) rfl (fun h2 h2a h2o => ?_)
  have ho := (h2o _ (cne ho ho4 (by simp))).trans ho
  have ho1 := (h2o _ (cne ho1 ho4 (by simp))).trans ho1
  have ho2 := (h2o _ (cne ho2 ho4 (by simp))).trans ho2
  have ho3 := (h2o _ (cne ho3 ho4 (by simp))).trans ho3
  have ho4 := h2a
  have fm := fm.step (by simp) h2o
  refine ev_aload_n d_Ro_joinWithNext_48 rfl rfl ?_
  refine ev_get d_Ro_joinWithNext_49 fl_Ro_18 ho rfl ?_
  refine ev_iload_n d_Ro_joinWithNext_52 rfl rfl ?_
  refine ev_dup2_11 d_Ro_joinWithNext_53 rfl rfl ?_
  refine ez_iaload i d_Ro_joinWithNext_54 ho3 (by omega) (by omega) (by decide) ?_
  refine ev_iconst (v := iZ 1) d_Ro_joinWithNext_55 rfl ?_
  refine ev_aload_n d_Ro_joinWithNext_56 rfl rfl ?_
  refine ev_get d_Ro_joinWithNext_57 fl_Ro_18 ho rfl ?_
  refine ev_iload_n d_Ro_joinWithNext_60 rfl rfl ?_
  refine ev_iconst (v := iZ 1) d_Ro_joinWithNext_61 rfl ?_
  refine ez_iadd d_Ro_joinWithNext_62 ?_
  refine ez_iaload (i + 1) d_Ro_joinWithNext_63 ho3 (by omega) (by omega) (by decide) ?_
  refine ez_iadd d_Ro_joinWithNext_64 ?_
  refine ez_iadd d_Ro_joinWithNext_65 ?_
  refine ez_iastore (F' := zup K3 i ((K3 i) + (1 + (K3 (i + 1))))) i d_Ro_joinWithNext_66 ho3 (by omega) (by omega) (by decide) rfl (fun h3 h3a h3o => ?_)
  have ho := (h3o _ (cne ho ho3 (by simp))).trans ho
  have ho1 := (h3o _ (cne ho1 ho3 (by simp))).trans ho1
  have ho2 := (h3o _ (cne ho2 ho3 (by simp))).trans ho2
  have ho4 := (h3o _ (cne ho4 ho3 (by simp))).trans ho4
  have ho3 := h3a
  have fm := fm.step (by simp) h3o
  refine ev_aload_n d_Ro_joinWithNext_67 rfl rfl ?_
  refine ev_get d_Ro_joinWithNext_68 fl_Ro_15 ho rfl ?_
  refine ev_iload_n d_Ro_joinWithNext_71 rfl rfl ?_
  refine ev_aload_n d_Ro_joinWithNext_72 rfl rfl ?_
  refine ev_get d_Ro_joinWithNext_73 fl_Ro_15 ho rfl ?_
  refine ev_iload_n d_Ro_joinWithNext_76 rfl rfl ?_
  refine ez_laload i d_Ro_joinWithNext_77 ho2 (by omega) (by omega) (by decide) ?_
  refine ev_aload_n d_Ro_joinWithNext_78 rfl rfl ?_
  refine ev_get d_Ro_joinWithNext_79 fl_Ro_15 ho rfl ?_
  refine ev_iload_n d_Ro_joinWithNext_82 rfl rfl ?_
  refine ev_iconst (v := iZ 1) d_Ro_joinWithNext_83 rfl ?_
  refine ez_iadd d_Ro_joinWithNext_84 ?_
  refine ez_laload (i + 1) d_Ro_joinWithNext_85 ho2 (by omega) (by omega) (by decide) ?_
  refine ez_maxl (by omega) (by omega) d_Ro_joinWithNext_86 ml_Ro_52 ms_Math_maxl in_Math co_Math_maxl (by decide) (Nat.le_of_ble_eq_true rfl) (by decide) (by decide) ?_
  refine ez_lastore (F' := zup K2 i (max (K2 i) (K2 (i + 1)))) i d_Ro_joinWithNext_89 ho2 (by omega) (by omega) (by decide) rfl (fun h4 h4a h4o => ?_)
  have ho := (h4o _ (cne ho ho2 (by simp))).trans ho
  have ho1 := (h4o _ n_o).trans ho1
  have ho3 := (h4o _ (cne ho3 ho2 (by simp))).trans ho3
  have ho4 := (h4o _ (cne ho4 ho2 (by simp))).trans ho4
  have ho2 := h4a
  have fm := fm.step (by simp) h4o
  refine ev_aload_n d_Ro_joinWithNext_90 rfl rfl ?_
  refine ev_iload_n d_Ro_joinWithNext_91 rfl rfl ?_
  refine ev_iconst (v := iZ 2) d_Ro_joinWithNext_92 rfl ?_
  refine ez_iadd d_Ro_joinWithNext_93 ?_
  rw [show ((i : Int) + 2 : Int) = ((i + 2 : Nat) : Int) from by omega]
  refine ev_iload_n d_Ro_joinWithNext_94 rfl rfl ?_
  refine ev_iconst (v := iZ 1) d_Ro_joinWithNext_95 rfl ?_
  refine ez_iadd d_Ro_joinWithNext_96 ?_
  rw [show ((i : Int) + 1 : Int) = ((i + 1 : Nat) : Int) from by omega]
  refine ev_callV M_Ro_move (rm 1 40) _ (As := [.int (iZ ((i + 2 : Nat) : Int)), .int (iZ ((i + 1 : Nat) : Int))]) (c_Ro_move G h4 (i + 2) (i + 1) o o1 o2 o3 o4 n K1 (zup K2 i (max (K2 i) (K2 (i + 1)))) (zup K3 i ((K3 i) + (1 + (K3 (i + 1))))) (va_cpy (zup K4 (i * 64 + (K3 i).toNat) 10) (zup K4 (i * 64 + (K3 i).toNat) 10) ((i + 1) * 64) (i * 64 + (K3 i).toNat + 1) ((K3 (i + 1)).toNat)) ho ho1 ho2 ho3 ho4 n_o (by omega) (by omega) hn) d_Ro_joinWithNext_97 mk_Ro_move ml_Ro_58 mv_Ro_move ho rfl rfl rfl (Nat.le_of_ble_eq_true rfl) ⟨by decide, by decide⟩ ⟨by decide, by decide⟩ (fun r h9 hq => ?_)
  obtain ⟨rfl, ho, ho1, ho2, ho3, ho4, fmv⟩ := hq
  have fm := fm.call (by simp) fmv
  refine ev_aload_n d_Ro_joinWithNext_100 rfl rfl ?_
  refine ev_dup d_Ro_joinWithNext_101 rfl ?_
  refine ev_get d_Ro_joinWithNext_102 fl_Ro_25 ho rfl ?_
  refine ev_iconst (v := iZ 1) d_Ro_joinWithNext_105 rfl ?_
  refine ez_isub d_Ro_joinWithNext_106 ?_
  rw [show ((n : Int) - 1 : Int) = ((n - 1 : Nat) : Int) from by omega]
  refine ev_put2 (fs' := [.ref o1, .ref o2, .ref o3, .ref o4, .int (iZ ((n - 1 : Nat) : Int))]) d_Ro_joinWithNext_107 fw_Ro_25 (Or.inr (fun _ _ _ q => by cases q; rfl)) ho (Nat.le_of_ble_eq_true rfl) rfl rfl rfl (fun h5 h5a h5o => ?_)
  have ho1 := (h5o _ (cne ho1 ho (by simp))).trans ho1
  have ho2 := (h5o _ (cne ho2 ho (by simp))).trans ho2
  have ho3 := (h5o _ (cne ho3 ho (by simp))).trans ho3
  have ho4 := (h5o _ (cne ho4 ho (by simp))).trans ho4
  have ho := h5a
  have fm := fm.step (by simp) h5o
  exact ev_return d_Ro_joinWithNext_110 rfl (by decide) (by decide) (⟨rfl, ho, ho1, ho2, ho3, ho4, fm⟩)
set_option maxHeartbeats 4000000 in
set_option maxRecDepth 100000 in
theorem c_CB_mergeB (G : GT) (h : HM) (x b xf xu xo xp xe xw xl xr : Nat) (o1 o2 o3 o4 n : Nat) (i : Int) (hx : h x = some (.inr (0, [.ref b, .ref xf, .ref xu, .ref xo, .ref xp, .ref xe, .ref xw, .ref xl, .ref xr]))) (ho : h xo = some (.inr (2, [.ref o1, .ref o2, .ref o3, .ref o4, .int (iZ (n : Int))]))) (hn : n ≤ 16) (hi : iR i) (hb : ¬ (0 ≤ i ∧ i + 1 < n)) : Rn G M_CB_merge (rm 1 40) [.ref x, .int (iZ i)] h (Pu (.int (iZ (-2))) h) := by
  refine rn_of (by decide) (Nat.le_of_ble_eq_true rfl) ?_
  show Ev G M_CB_merge _ _ 0 [(0, .ref x), (1, .int (iZ i))] [] _ 0 0
  refine ev_aload_n d_CB_merge_0 rfl rfl ?_
  refine ev_get d_CB_merge_1 fl_CB_33 hx rfl ?_
  refine ev_iload_n d_CB_merge_4 rfl rfl ?_
  have hr9 := hasZ_r (n : Int) i
  refine ev_pV M_Ro_has 0 0 (As := [.int (iZ i)]) (c_Ro_has G h xo o1 o2 o3 o4 n i ho (by omega) (by omega)) d_CB_merge_5 mk_Ro_has ml_CB_121 mv_Ro_has ho rfl rfl rfl (Nat.le_of_ble_eq_true rfl) ⟨by decide, by decide⟩ ⟨by decide, by decide⟩ ?_
  refine ez_if_eq (tgt := 24) (by omega) d_CB_merge_8 rfl (fun c8 => ?_) (fun c8 => ?_)
  · have z8 := hasZ_0 c8
    refine ev_bipush (v := iZ (-2)) d_CB_merge_24 rfl ?_
    exact ev_ireturn d_CB_merge_26 rfl (by decide) (by decide) (⟨rfl, rfl⟩)
  · have z8 := hasZ_1 c8
    refine ev_iload_n d_CB_merge_11 rfl rfl ?_
    refine ev_iconst (v := iZ 1) d_CB_merge_12 rfl ?_
    refine ez_iadd d_CB_merge_13 ?_
    refine ev_aload_n d_CB_merge_14 rfl rfl ?_
    refine ev_get d_CB_merge_15 fl_CB_33 hx rfl ?_
    refine ev_get d_CB_merge_18 fl_CB_112 ho rfl ?_
    refine ez_icmp_lt (tgt := 27) (by omega) (by omega) d_CB_merge_21 rfl (fun c21 => absurd c21 (by omega)) (fun c21 => ?_)
    refine ev_bipush (v := iZ (-2)) d_CB_merge_24 rfl ?_
    exact ev_ireturn d_CB_merge_26 rfl (by decide) (by decide) (⟨rfl, rfl⟩)
set_option maxHeartbeats 4000000 in
set_option maxRecDepth 100000 in
theorem c_CB_merge (G : GT) (h : HM) (x b xf xu xo xp xe xw xl xr : Nat) (o1 o2 o3 o4 pk top nx ct n : Nat) (Kp : Nat → Option Nat) (Ke : Nat → Nat) (C : Nat → Cu) (K1 K2 K3 K4 : Nat → Int) (i : Nat) (hx : h x = some (.inr (0, [.ref b, .ref xf, .ref xu, .ref xo, .ref xp, .ref xe, .ref xw, .ref xl, .ref xr]))) (ho : h xo = some (.inr (2, [.ref o1, .ref o2, .ref o3, .ref o4, .int (iZ (n : Int))]))) (ho1 : h o1 = some (.inl (G_j G, 16, .inr (.inl (lA K1))))) (ho2 : h o2 = some (.inl (G_j G, 16, .inr (.inl (lA K2))))) (ho3 : h o3 = some (.inl (G_i G, 16, .inl (iA K3)))) (ho4 : h o4 = some (.inl (G_i G, 1024, .inl (iA K4)))) (hW : PaW G h top xp pk nx ct Kp Ke C) (hn : n ≤ 16) (hE : ∀ k, 0 ≤ K2 k ∧ K2 k ≤ 2540160000000) (hZ : ∀ k, 0 ≤ K3 k ∧ K3 k ≤ 64) (hxt : x ≤ top) (hle : xp ≤ top ∧ pk ≤ top ∧ xo ≤ top ∧ o1 ≤ top ∧ o2 ≤ top ∧ o3 ≤ top ∧ o4 ≤ top) (htop : ∃ e, h top = some e) (n_o : o1 ≠ o2) (hi : i + 1 < n) : Rn G M_CB_merge ({ frames := 4, cells := 5, slots := 1077, locals := 112 }) [.ref x, .int (iZ (i : Int))] h (fun r h' => (64 < K3 i + 1 + K3 (i + 1) → r = some (.int (iZ (-3))) ∧ h' = h) ∧ (K3 i + 1 + K3 (i + 1) ≤ 64 → r = some (.int (iZ ((n - 1 : Nat) : Int))) ∧ h' xo = some (.inr (2, [.ref o1, .ref o2, .ref o3, .ref o4, .int (iZ ((n - 1 : Nat) : Int))])) ∧ h' o1 = some (.inl (G_j G, 16, .inr (.inl (lA (va_cpy K1 K1 ((i + 2)) ((i + 1)) ((n - (i + 2)))))))) ∧ h' o2 = some (.inl (G_j G, 16, .inr (.inl (lA (va_cpy (zup K2 i (max (K2 i) (K2 (i + 1)))) (zup K2 i (max (K2 i) (K2 (i + 1)))) ((i + 2)) ((i + 1)) ((n - (i + 2)))))))) ∧ h' o3 = some (.inl (G_i G, 16, .inl (iA (va_cpy (zup K3 i ((K3 i) + (1 + (K3 (i + 1))))) (zup K3 i ((K3 i) + (1 + (K3 (i + 1))))) ((i + 2)) ((i + 1)) ((n - (i + 2))))))) ∧ h' o4 = some (.inl (G_i G, 1024, .inl (iA (va_cpy (va_cpy (zup K4 (i * 64 + (K3 i).toNat) 10) (zup K4 (i * 64 + (K3 i).toNat) 10) ((i + 1) * 64) (i * 64 + (K3 i).toNat + 1) ((K3 (i + 1)).toNat)) (va_cpy (zup K4 (i * 64 + (K3 i).toNat) 10) (zup K4 (i * 64 + (K3 i).toNat) 10) ((i + 1) * 64) (i * 64 + (K3 i).toNat + 1) ((K3 (i + 1)).toNat)) ((i + 2) * 64) ((i + 1) * 64) ((n - (i + 2)) * 64))))) ∧ (∃ Kp' Ke', PaW G h' top xp pk ((nx + 1) % 10) (min (ct + 1) 10) Kp' Ke' (fun j => if j = nx then (n, K1, K2, K3, K4) else C j) ∧ (∃ q, Kp' nx = some q) ∧ ∀ j, j ≠ nx → Kp' j = Kp j) ∧ Fb top [xo, o1, o2, o3, o4, xp, pk] h h')) := by
  refine rn_of (by decide) (Nat.le_of_ble_eq_true rfl) ?_
  show Ev G M_CB_merge _ _ 0 [(0, .ref x), (1, .int (iZ (i : Int)))] [] _ 0 0
  have z0 := hZ i
  have z1 := hZ (i + 1)
  refine ev_aload_n d_CB_merge_0 rfl rfl ?_
  refine ev_get d_CB_merge_1 fl_CB_33 hx rfl ?_
  refine ev_iload_n d_CB_merge_4 rfl rfl ?_
  have hr9 := hasZ_r (n : Int) (i : Int)
  refine ev_pV M_Ro_has 0 0 (As := [.int (iZ (i : Int))]) (c_Ro_has G h xo o1 o2 o3 o4 n (i : Int) ho (by omega) (by omega)) d_CB_merge_5 mk_Ro_has ml_CB_121 mv_Ro_has ho rfl rfl rfl (Nat.le_of_ble_eq_true rfl) ⟨by decide, by decide⟩ ⟨by decide, by decide⟩ ?_
  refine ez_if_eq (tgt := 24) (by omega) d_CB_merge_8 rfl (fun c8 => ?_) (fun c8 => ?_)
  · have z8 := hasZ_0 c8
    omega
  · have z8 := hasZ_1 c8
    refine ev_iload_n d_CB_merge_11 rfl rfl ?_
    refine ev_iconst (v := iZ 1) d_CB_merge_12 rfl ?_
    refine ez_iadd d_CB_merge_13 ?_
    refine ev_aload_n d_CB_merge_14 rfl rfl ?_
    refine ev_get d_CB_merge_15 fl_CB_33 hx rfl ?_
    refine ev_get d_CB_merge_18 fl_CB_112 ho rfl ?_
    refine ez_icmp_lt (tgt := 27) (by omega) (by omega) d_CB_merge_21 rfl (fun c21 => ?_) (fun c21 => absurd c21 (by omega))
    refine ev_aload_n d_CB_merge_27 rfl rfl ?_
    refine ev_get d_CB_merge_28 fl_CB_33 hx rfl ?_
    refine ev_get d_CB_merge_31 fl_CB_133 ho rfl ?_
    refine ev_iload_n d_CB_merge_34 rfl rfl ?_
    refine ez_iaload i d_CB_merge_35 ho3 (by omega) (by omega) (by decide) ?_
    refine ev_iconst (v := iZ 1) d_CB_merge_36 rfl ?_
    refine ez_iadd d_CB_merge_37 ?_
    refine ev_aload_n d_CB_merge_38 rfl rfl ?_
    refine ev_get d_CB_merge_39 fl_CB_33 hx rfl ?_
    refine ev_get d_CB_merge_42 fl_CB_133 ho rfl ?_
    refine ev_iload_n d_CB_merge_45 rfl rfl ?_
    refine ev_iconst (v := iZ 1) d_CB_merge_46 rfl ?_
    refine ez_iadd d_CB_merge_47 ?_
    refine ez_iaload (i + 1) d_CB_merge_48 ho3 (by omega) (by omega) (by decide) ?_
    refine ez_iadd d_CB_merge_49 ?_
    refine ev_bipush (v := iZ 64) d_CB_merge_50 rfl ?_
    refine ez_icmp_le (tgt := 58) (by omega) (by decide) d_CB_merge_52 rfl (fun c52 => ?_) (fun c52 => ?_)
    · refine ev_aload_n d_CB_merge_58 rfl rfl ?_
      refine ev_get d_CB_merge_59 fl_CB_40 hx rfl ?_
      refine ev_aload_n d_CB_merge_62 rfl rfl ?_
      refine ev_get d_CB_merge_63 fl_CB_33 hx rfl ?_
      refine ev_callV M_Pa_keep ({ frames := 2, cells := 5, slots := 1077, locals := 61 }) _ (As := [.ref xo]) (c_Pa_keep G h top xp pk xo o1 o2 o3 o4 nx ct n Kp Ke C K1 K2 K3 K4 hW ho ho1 ho2 ho3 ho4 hn htop hle n_o) d_CB_merge_66 mk_Pa_keep ml_CB_103 mv_Pa_keep hW.2.2.1 rfl rfl rfl (Nat.le_of_ble_eq_true rfl) ⟨by decide, by decide⟩ ⟨by decide, by decide⟩ (fun r h8 hq => ?_)
      obtain ⟨rfl, ⟨Kp', Ke', hW1, hKs, hKo⟩, fb⟩ := hq
      have hx := fb _ _ hx (by omega) (ninc (cne hx hW.2.2.1 (by simp)) (ninc (cne hx hW.2.2.2.1 (by simp)) nin0))
      have ho := fb _ _ ho (by omega) (ninc (cne ho hW.2.2.1 (by simp)) (ninc (cne ho hW.2.2.2.1 (by simp)) nin0))
      have ho1 := fb _ _ ho1 (by omega) (ninc (cne ho1 hW.2.2.1 (by simp)) (ninc (cne ho1 hW.2.2.2.1 (by simp)) nin0))
      have ho2 := fb _ _ ho2 (by omega) (ninc (cne ho2 hW.2.2.1 (by simp)) (ninc (cne ho2 hW.2.2.2.1 (by simp)) nin0))
      have ho3 := fb _ _ ho3 (by omega) (ninc (cne ho3 hW.2.2.1 (by simp)) (ninc (cne ho3 hW.2.2.2.1 (by simp)) nin0))
      have ho4 := fb _ _ ho4 (by omega) (ninc (cne ho4 hW.2.2.1 (by simp)) (ninc (cne ho4 hW.2.2.2.1 (by simp)) nin0))
      have hS : ∀ b ∈ [xo, o1, o2, o3, o4], b ≤ top ∧ b ≠ xp ∧ b ≠ pk := by
        intro b hb
        simp at hb
        rcases hb with rfl | rfl | rfl | rfl | rfl
        · exact ⟨by omega, cne ho hW1.2.2.1 (by simp), cne ho hW1.2.2.2.1 (by simp)⟩
        · exact ⟨by omega, cne ho1 hW1.2.2.1 (by simp), cne ho1 hW1.2.2.2.1 (by simp)⟩
        · exact ⟨by omega, cne ho2 hW1.2.2.1 (by simp), cne ho2 hW1.2.2.2.1 (by simp)⟩
        · exact ⟨by omega, cne ho3 hW1.2.2.1 (by simp), cne ho3 hW1.2.2.2.1 (by simp)⟩
        · exact ⟨by omega, cne ho4 hW1.2.2.1 (by simp), cne ho4 hW1.2.2.2.1 (by simp)⟩
      refine ev_aload_n d_CB_merge_69 rfl rfl ?_
      refine ev_get d_CB_merge_70 fl_CB_33 hx rfl ?_
      refine ev_iload_n d_CB_merge_73 rfl rfl ?_
      have hox := ho
      have ho1x := ho1
      have ho2x := ho2
      have ho3x := ho3
      have ho4x := ho4
      refine ev_callV M_Ro_joinWithNext (rm 2 70) _ (As := [.int (iZ (i : Int))]) (c_Ro_join G h8 i xo o1 o2 o3 o4 n K1 K2 K3 K4 ho ho1 ho2 ho3 ho4 n_o (by omega) hn hE hZ (by omega)) d_CB_merge_74 mk_Ro_joinWithNext ml_CB_198 mv_Ro_joinWithNext ho rfl rfl rfl (Nat.le_of_ble_eq_true rfl) ⟨by decide, by decide⟩ ⟨by decide, by decide⟩ (fun r h9 hq => ?_)
      obtain ⟨rfl, ho, ho1, ho2, ho3, ho4, fm⟩ := hq
      have hx := (fm _ (ninc (cne hx hox (by simp)) (ninc (cne hx ho1x (by simp)) (ninc (cne hx ho2x (by simp)) (ninc (cne hx ho3x (by simp)) (ninc (cne hx ho4x (by simp)) nin0)))))).trans hx
      refine ev_aload_n d_CB_merge_77 rfl rfl ?_
      refine ev_get d_CB_merge_78 fl_CB_33 hx rfl ?_
      refine ev_get d_CB_merge_81 fl_CB_112 ho rfl ?_
      exact ev_ireturn d_CB_merge_84 rfl (by decide) (by decide) (⟨fun q => absurd q (by omega), fun _ => ⟨rfl, ho, ho1, ho2, ho3, ho4, ⟨Kp', Ke', hW1.fm fm hS, hKs, hKo⟩, fb.fm fm (by simp) (by simp)⟩⟩)
    · refine ev_bipush (v := iZ (-3)) d_CB_merge_55 rfl ?_
      exact ev_ireturn d_CB_merge_57 rfl (by decide) (by decide) (⟨fun _ => ⟨rfl, rfl⟩, fun q => absurd q (by omega)⟩)
