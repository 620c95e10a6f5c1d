theorem d_Ro_copyFrom_0 : decode M_Ro_copyFrom.2.1 0 = .ok (.aload_n 0, 1) := by decide +kernel
theorem d_Ro_copyFrom_1 : decode M_Ro_copyFrom.2.1 1 = .ok (.aload_n 1, 1) := by decide +kernel
theorem d_Ro_copyFrom_2 : decode M_Ro_copyFrom.2.1 2 = .ok (.getfield 25, 3) := by decide +kernel
theorem d_Ro_copyFrom_5 : decode M_Ro_copyFrom.2.1 5 = .ok (.putfield 25, 3) := by decide +kernel
theorem d_Ro_copyFrom_8 : decode M_Ro_copyFrom.2.1 8 = .ok (.aload_n 1, 1) := by decide +kernel
theorem d_Ro_copyFrom_9 : decode M_Ro_copyFrom.2.1 9 = .ok (.getfield 9, 3) := by decide +kernel
theorem d_Ro_copyFrom_12 : decode M_Ro_copyFrom.2.1 12 = .ok (.iconst 0, 1) := by decide +kernel
theorem d_Ro_copyFrom_13 : decode M_Ro_copyFrom.2.1 13 = .ok (.aload_n 0, 1) := by decide +kernel
theorem d_Ro_copyFrom_14 : decode M_Ro_copyFrom.2.1 14 = .ok (.getfield 9, 3) := by decide +kernel
theorem d_Ro_copyFrom_17 : decode M_Ro_copyFrom.2.1 17 = .ok (.iconst 0, 1) := by decide +kernel
theorem d_Ro_copyFrom_18 : decode M_Ro_copyFrom.2.1 18 = .ok (.aload_n 0, 1) := by decide +kernel
theorem d_Ro_copyFrom_19 : decode M_Ro_copyFrom.2.1 19 = .ok (.getfield 25, 3) := by decide +kernel
theorem d_Ro_copyFrom_22 : decode M_Ro_copyFrom.2.1 22 = .ok (.invokestatic 44, 3) := by decide +kernel
theorem d_Ro_copyFrom_25 : decode M_Ro_copyFrom.2.1 25 = .ok (.aload_n 1, 1) := by decide +kernel
theorem d_Ro_copyFrom_26 : decode M_Ro_copyFrom.2.1 26 = .ok (.getfield 15, 3) := by decide +kernel
theorem d_Ro_copyFrom_29 : decode M_Ro_copyFrom.2.1 29 = .ok (.iconst 0, 1) := by decide +kernel
theorem d_Ro_copyFrom_30 : decode M_Ro_copyFrom.2.1 30 = .ok (.aload_n 0, 1) := by decide +kernel
theorem d_Ro_copyFrom_31 : decode M_Ro_copyFrom.2.1 31 = .ok (.getfield 15, 3) := by decide +kernel
theorem d_Ro_copyFrom_34 : decode M_Ro_copyFrom.2.1 34 = .ok (.iconst 0, 1) := by decide +kernel
theorem d_Ro_copyFrom_35 : decode M_Ro_copyFrom.2.1 35 = .ok (.aload_n 0, 1) := by decide +kernel
theorem d_Ro_copyFrom_36 : decode M_Ro_copyFrom.2.1 36 = .ok (.getfield 25, 3) := by decide +kernel
theorem d_Ro_copyFrom_39 : decode M_Ro_copyFrom.2.1 39 = .ok (.invokestatic 44, 3) := by decide +kernel
theorem d_Ro_copyFrom_42 : decode M_Ro_copyFrom.2.1 42 = .ok (.aload_n 1, 1) := by decide +kernel
theorem d_Ro_copyFrom_43 : decode M_Ro_copyFrom.2.1 43 = .ok (.getfield 18, 3) := by decide +kernel
theorem d_Ro_copyFrom_46 : decode M_Ro_copyFrom.2.1 46 = .ok (.iconst 0, 1) := by decide +kernel
theorem d_Ro_copyFrom_47 : decode M_Ro_copyFrom.2.1 47 = .ok (.aload_n 0, 1) := by decide +kernel
theorem d_Ro_copyFrom_48 : decode M_Ro_copyFrom.2.1 48 = .ok (.getfield 18, 3) := by decide +kernel
theorem d_Ro_copyFrom_51 : decode M_Ro_copyFrom.2.1 51 = .ok (.iconst 0, 1) := by decide +kernel
theorem d_Ro_copyFrom_52 : decode M_Ro_copyFrom.2.1 52 = .ok (.aload_n 0, 1) := by decide +kernel
theorem d_Ro_copyFrom_53 : decode M_Ro_copyFrom.2.1 53 = .ok (.getfield 25, 3) := by decide +kernel
theorem d_Ro_copyFrom_56 : decode M_Ro_copyFrom.2.1 56 = .ok (.invokestatic 44, 3) := by decide +kernel
theorem d_Ro_copyFrom_59 : decode M_Ro_copyFrom.2.1 59 = .ok (.aload_n 1, 1) := by decide +kernel
theorem d_Ro_copyFrom_60 : decode M_Ro_copyFrom.2.1 60 = .ok (.getfield 22, 3) := by decide +kernel
theorem d_Ro_copyFrom_63 : decode M_Ro_copyFrom.2.1 63 = .ok (.iconst 0, 1) := by decide +kernel
theorem d_Ro_copyFrom_64 : decode M_Ro_copyFrom.2.1 64 = .ok (.aload_n 0, 1) := by decide +kernel
theorem d_Ro_copyFrom_65 : decode M_Ro_copyFrom.2.1 65 = .ok (.getfield 22, 3) := by decide +kernel
theorem d_Ro_copyFrom_68 : decode M_Ro_copyFrom.2.1 68 = .ok (.iconst 0, 1) := by decide +kernel
theorem d_Ro_copyFrom_69 : decode M_Ro_copyFrom.2.1 69 = .ok (.aload_n 0, 1) := by decide +kernel
theorem d_Ro_copyFrom_70 : decode M_Ro_copyFrom.2.1 70 = .ok (.getfield 25, 3) := by decide +kernel
theorem d_Ro_copyFrom_73 : decode M_Ro_copyFrom.2.1 73 = .ok (.bipush 64, 2) := by decide +kernel
theorem d_Ro_copyFrom_75 : decode M_Ro_copyFrom.2.1 75 = .ok (.imul, 1) := by decide +kernel
theorem d_Ro_copyFrom_76 : decode M_Ro_copyFrom.2.1 76 = .ok (.invokestatic 44, 3) := by decide +kernel
theorem d_Ro_copyFrom_79 : decode M_Ro_copyFrom.2.1 79 = .ok (.return_, 1) := by decide +kernel
theorem d_Pa_keep_0 : decode M_Pa_keep.2.1 0 = .ok (.aload_n 0, 1) := by decide +kernel
theorem d_Pa_keep_1 : decode M_Pa_keep.2.1 1 = .ok (.getfield 11, 3) := by decide +kernel
theorem d_Pa_keep_4 : decode M_Pa_keep.2.1 4 = .ok (.aload_n 0, 1) := by decide +kernel
theorem d_Pa_keep_5 : decode M_Pa_keep.2.1 5 = .ok (.getfield 15, 3) := by decide +kernel
theorem d_Pa_keep_8 : decode M_Pa_keep.2.1 8 = .ok (.aaload, 1) := by decide +kernel
theorem d_Pa_keep_9 : decode M_Pa_keep.2.1 9 = .ok (.ifnonnull 19, 3) := by decide +kernel
theorem d_Pa_keep_12 : decode M_Pa_keep.2.1 12 = .ok (.aload_n 0, 1) := by decide +kernel
theorem d_Pa_keep_13 : decode M_Pa_keep.2.1 13 = .ok (.getfield 11, 3) := by decide +kernel
theorem d_Pa_keep_16 : decode M_Pa_keep.2.1 16 = .ok (.aload_n 0, 1) := by decide +kernel
theorem d_Pa_keep_17 : decode M_Pa_keep.2.1 17 = .ok (.getfield 15, 3) := by decide +kernel
theorem d_Pa_keep_20 : decode M_Pa_keep.2.1 20 = .ok (.new 9, 3) := by decide +kernel
theorem d_Pa_keep_23 : decode M_Pa_keep.2.1 23 = .ok (.dup, 1) := by decide +kernel
theorem d_Pa_keep_24 : decode M_Pa_keep.2.1 24 = .ok (.invokespecial 19, 3) := by decide +kernel
theorem d_Pa_keep_27 : decode M_Pa_keep.2.1 27 = .ok (.aastore, 1) := by decide +kernel
theorem d_Pa_keep_28 : decode M_Pa_keep.2.1 28 = .ok (.aload_n 0, 1) := by decide +kernel
theorem d_Pa_keep_29 : decode M_Pa_keep.2.1 29 = .ok (.getfield 11, 3) := by decide +kernel
theorem d_Pa_keep_32 : decode M_Pa_keep.2.1 32 = .ok (.aload_n 0, 1) := by decide +kernel
theorem d_Pa_keep_33 : decode M_Pa_keep.2.1 33 = .ok (.getfield 15, 3) := by decide +kernel
theorem d_Pa_keep_36 : decode M_Pa_keep.2.1 36 = .ok (.aaload, 1) := by decide +kernel
theorem d_Pa_keep_37 : decode M_Pa_keep.2.1 37 = .ok (.aload_n 1, 1) := by decide +kernel
theorem d_Pa_keep_38 : decode M_Pa_keep.2.1 38 = .ok (.invokevirtual 20, 3) := by decide +kernel
theorem d_Pa_keep_41 : decode M_Pa_keep.2.1 41 = .ok (.aload_n 0, 1) := by decide +kernel
theorem d_Pa_keep_42 : decode M_Pa_keep.2.1 42 = .ok (.aload_n 0, 1) := by decide +kernel
theorem d_Pa_keep_43 : decode M_Pa_keep.2.1 43 = .ok (.getfield 15, 3) := by decide +kernel
theorem d_Pa_keep_46 : decode M_Pa_keep.2.1 46 = .ok (.iconst 1, 1) := by decide +kernel
theorem d_Pa_keep_47 : decode M_Pa_keep.2.1 47 = .ok (.iadd, 1) := by decide +kernel
theorem d_Pa_keep_48 : decode M_Pa_keep.2.1 48 = .ok (.bipush 10, 2) := by decide +kernel
theorem d_Pa_keep_50 : decode M_Pa_keep.2.1 50 = .ok (.irem, 1) := by decide +kernel
theorem d_Pa_keep_51 : decode M_Pa_keep.2.1 51 = .ok (.putfield 15, 3) := by decide +kernel
theorem d_Pa_keep_54 : decode M_Pa_keep.2.1 54 = .ok (.aload_n 0, 1) := by decide +kernel
theorem d_Pa_keep_55 : decode M_Pa_keep.2.1 55 = .ok (.getfield 24, 3) := by decide +kernel
theorem d_Pa_keep_58 : decode M_Pa_keep.2.1 58 = .ok (.bipush 10, 2) := by decide +kernel
theorem d_Pa_keep_60 : decode M_Pa_keep.2.1 60 = .ok (.if_icmp .ge 13, 3) := by decide +kernel
theorem d_Pa_keep_63 : decode M_Pa_keep.2.1 63 = .ok (.aload_n 0, 1) := by decide +kernel
theorem d_Pa_keep_64 : decode M_Pa_keep.2.1 64 = .ok (.dup, 1) := by decide +kernel
theorem d_Pa_keep_65 : decode M_Pa_keep.2.1 65 = .ok (.getfield 24, 3) := by decide +kernel
theorem d_Pa_keep_68 : decode M_Pa_keep.2.1 68 = .ok (.iconst 1, 1) := by decide +kernel
theorem d_Pa_keep_69 : decode M_Pa_keep.2.1 69 = .ok (.iadd, 1) := by decide +kernel
theorem d_Pa_keep_70 : decode M_Pa_keep.2.1 70 = .ok (.putfield 24, 3) := by decide +kernel
theorem d_Pa_keep_73 : decode M_Pa_keep.2.1 73 = .ok (.return_, 1) := by decide +kernel
theorem d_Mo_keep_0 : decode M_Mo_keep.2.1 0 = .ok (.aload_n 0, 1) := by decide +kernel
theorem d_Mo_keep_1 : decode M_Mo_keep.2.1 1 = .ok (.getfield 101, 3) := by decide +kernel
theorem d_Mo_keep_4 : decode M_Mo_keep.2.1 4 = .ok (.bipush 10, 2) := by decide +kernel
theorem d_Mo_keep_6 : decode M_Mo_keep.2.1 6 = .ok (.irem, 1) := by decide +kernel
theorem d_Mo_keep_7 : decode M_Mo_keep.2.1 7 = .ok (.istore_n 1, 1) := by decide +kernel
theorem d_Mo_keep_8 : decode M_Mo_keep.2.1 8 = .ok (.aload_n 0, 1) := by decide +kernel
theorem d_Mo_keep_9 : decode M_Mo_keep.2.1 9 = .ok (.getfield 33, 3) := by decide +kernel
theorem d_Mo_keep_12 : decode M_Mo_keep.2.1 12 = .ok (.iload_n 1, 1) := by decide +kernel
theorem d_Mo_keep_13 : decode M_Mo_keep.2.1 13 = .ok (.aload_n 0, 1) := by decide +kernel
theorem d_Mo_keep_14 : decode M_Mo_keep.2.1 14 = .ok (.getfield 92, 3) := by decide +kernel
theorem d_Mo_keep_17 : decode M_Mo_keep.2.1 17 = .ok (.iastore, 1) := by decide +kernel
theorem d_Mo_keep_18 : decode M_Mo_keep.2.1 18 = .ok (.iconst 0, 1) := by decide +kernel
theorem d_Mo_keep_19 : decode M_Mo_keep.2.1 19 = .ok (.istore_n 2, 1) := by decide +kernel
theorem d_Mo_keep_20 : decode M_Mo_keep.2.1 20 = .ok (.iload_n 2, 1) := by decide +kernel
theorem d_Mo_keep_21 : decode M_Mo_keep.2.1 21 = .ok (.bipush 16, 2) := by decide +kernel
theorem d_Mo_keep_23 : decode M_Mo_keep.2.1 23 = .ok (.if_icmp .ge 60, 3) := by decide +kernel
theorem d_Mo_keep_26 : decode M_Mo_keep.2.1 26 = .ok (.aload_n 0, 1) := by decide +kernel
theorem d_Mo_keep_27 : decode M_Mo_keep.2.1 27 = .ok (.getfield 36, 3) := by decide +kernel
theorem d_Mo_keep_30 : decode M_Mo_keep.2.1 30 = .ok (.bipush 16, 2) := by decide +kernel
theorem d_Mo_keep_32 : decode M_Mo_keep.2.1 32 = .ok (.iload_n 1, 1) := by decide +kernel
theorem d_Mo_keep_33 : decode M_Mo_keep.2.1 33 = .ok (.imul, 1) := by decide +kernel
theorem d_Mo_keep_34 : decode M_Mo_keep.2.1 34 = .ok (.iload_n 2, 1) := by decide +kernel
theorem d_Mo_keep_35 : decode M_Mo_keep.2.1 35 = .ok (.iadd, 1) := by decide +kernel
theorem d_Mo_keep_36 : decode M_Mo_keep.2.1 36 = .ok (.aload_n 0, 1) := by decide +kernel
theorem d_Mo_keep_37 : decode M_Mo_keep.2.1 37 = .ok (.getfield 20, 3) := by decide +kernel
theorem d_Mo_keep_40 : decode M_Mo_keep.2.1 40 = .ok (.iload_n 2, 1) := by decide +kernel
theorem d_Mo_keep_41 : decode M_Mo_keep.2.1 41 = .ok (.laload, 1) := by decide +kernel
theorem d_Mo_keep_42 : decode M_Mo_keep.2.1 42 = .ok (.lastore, 1) := by decide +kernel
theorem d_Mo_keep_43 : decode M_Mo_keep.2.1 43 = .ok (.aload_n 0, 1) := by decide +kernel
theorem d_Mo_keep_44 : decode M_Mo_keep.2.1 44 = .ok (.getfield 39, 3) := by decide +kernel
theorem d_Mo_keep_47 : decode M_Mo_keep.2.1 47 = .ok (.bipush 16, 2) := by decide +kernel
theorem d_Mo_keep_49 : decode M_Mo_keep.2.1 49 = .ok (.iload_n 1, 1) := by decide +kernel
theorem d_Mo_keep_50 : decode M_Mo_keep.2.1 50 = .ok (.imul, 1) := by decide +kernel
theorem d_Mo_keep_51 : decode M_Mo_keep.2.1 51 = .ok (.iload_n 2, 1) := by decide +kernel
theorem d_Mo_keep_52 : decode M_Mo_keep.2.1 52 = .ok (.iadd, 1) := by decide +kernel
theorem d_Mo_keep_53 : decode M_Mo_keep.2.1 53 = .ok (.aload_n 0, 1) := by decide +kernel
theorem d_Mo_keep_54 : decode M_Mo_keep.2.1 54 = .ok (.getfield 24, 3) := by decide +kernel
theorem d_Mo_keep_57 : decode M_Mo_keep.2.1 57 = .ok (.iload_n 2, 1) := by decide +kernel
theorem d_Mo_keep_58 : decode M_Mo_keep.2.1 58 = .ok (.laload, 1) := by decide +kernel
theorem d_Mo_keep_59 : decode M_Mo_keep.2.1 59 = .ok (.lastore, 1) := by decide +kernel
theorem d_Mo_keep_60 : decode M_Mo_keep.2.1 60 = .ok (.aload_n 0, 1) := by decide +kernel
theorem d_Mo_keep_61 : decode M_Mo_keep.2.1 61 = .ok (.getfield 42, 3) := by decide +kernel
theorem d_Mo_keep_64 : decode M_Mo_keep.2.1 64 = .ok (.bipush 16, 2) := by decide +kernel
theorem d_Mo_keep_66 : decode M_Mo_keep.2.1 66 = .ok (.iload_n 1, 1) := by decide +kernel
theorem d_Mo_keep_67 : decode M_Mo_keep.2.1 67 = .ok (.imul, 1) := by decide +kernel
theorem d_Mo_keep_68 : decode M_Mo_keep.2.1 68 = .ok (.iload_n 2, 1) := by decide +kernel
theorem d_Mo_keep_69 : decode M_Mo_keep.2.1 69 = .ok (.iadd, 1) := by decide +kernel
theorem d_Mo_keep_70 : decode M_Mo_keep.2.1 70 = .ok (.aload_n 0, 1) := by decide +kernel
theorem d_Mo_keep_71 : decode M_Mo_keep.2.1 71 = .ok (.getfield 27, 3) := by decide +kernel
theorem d_Mo_keep_74 : decode M_Mo_keep.2.1 74 = .ok (.iload_n 2, 1) := by decide +kernel
theorem d_Mo_keep_75 : decode M_Mo_keep.2.1 75 = .ok (.iaload, 1) := by decide +kernel
theorem d_Mo_keep_76 : decode M_Mo_keep.2.1 76 = .ok (.iastore, 1) := by decide +kernel
theorem d_Mo_keep_77 : decode M_Mo_keep.2.1 77 = .ok (.iinc 2 1, 3) := by decide +kernel
theorem d_Mo_keep_80 : decode M_Mo_keep.2.1 80 = .ok (.goto (-60), 3) := by decide +kernel
theorem d_Mo_keep_83 : decode M_Mo_keep.2.1 83 = .ok (.iconst 0, 1) := by decide +kernel
theorem d_Mo_keep_84 : decode M_Mo_keep.2.1 84 = .ok (.istore_n 2, 1) := by decide +kernel
theorem d_Mo_keep_85 : decode M_Mo_keep.2.1 85 = .ok (.iload_n 2, 1) := by decide +kernel
theorem d_Mo_keep_86 : decode M_Mo_keep.2.1 86 = .ok (.sipush 1024, 3) := by decide +kernel
theorem d_Mo_keep_89 : decode M_Mo_keep.2.1 89 = .ok (.if_icmp .ge 27, 3) := by decide +kernel
theorem d_Mo_keep_92 : decode M_Mo_keep.2.1 92 = .ok (.aload_n 0, 1) := by decide +kernel
theorem d_Mo_keep_93 : decode M_Mo_keep.2.1 93 = .ok (.getfield 45, 3) := by decide +kernel
theorem d_Mo_keep_96 : decode M_Mo_keep.2.1 96 = .ok (.sipush 1024, 3) := by decide +kernel
theorem d_Mo_keep_99 : decode M_Mo_keep.2.1 99 = .ok (.iload_n 1, 1) := by decide +kernel
theorem d_Mo_keep_100 : decode M_Mo_keep.2.1 100 = .ok (.imul, 1) := by decide +kernel
theorem d_Mo_keep_101 : decode M_Mo_keep.2.1 101 = .ok (.iload_n 2, 1) := by decide +kernel
theorem d_Mo_keep_102 : decode M_Mo_keep.2.1 102 = .ok (.iadd, 1) := by decide +kernel
theorem d_Mo_keep_103 : decode M_Mo_keep.2.1 103 = .ok (.aload_n 0, 1) := by decide +kernel
theorem d_Mo_keep_104 : decode M_Mo_keep.2.1 104 = .ok (.getfield 30, 3) := by decide +kernel
theorem d_Mo_keep_107 : decode M_Mo_keep.2.1 107 = .ok (.iload_n 2, 1) := by decide +kernel
theorem d_Mo_keep_108 : decode M_Mo_keep.2.1 108 = .ok (.iaload, 1) := by decide +kernel
theorem d_Mo_keep_109 : decode M_Mo_keep.2.1 109 = .ok (.iastore, 1) := by decide +kernel
theorem d_Mo_keep_110 : decode M_Mo_keep.2.1 110 = .ok (.iinc 2 1, 3) := by decide +kernel
theorem d_Mo_keep_113 : decode M_Mo_keep.2.1 113 = .ok (.goto (-28), 3) := by decide +kernel
theorem d_Mo_keep_116 : decode M_Mo_keep.2.1 116 = .ok (.aload_n 0, 1) := by decide +kernel
theorem d_Mo_keep_117 : decode M_Mo_keep.2.1 117 = .ok (.dup, 1) := by decide +kernel
theorem d_Mo_keep_118 : decode M_Mo_keep.2.1 118 = .ok (.getfield 101, 3) := by decide +kernel
theorem d_Mo_keep_121 : decode M_Mo_keep.2.1 121 = .ok (.iconst 1, 1) := by decide +kernel
theorem d_Mo_keep_122 : decode M_Mo_keep.2.1 122 = .ok (.iadd, 1) := by decide +kernel
theorem d_Mo_keep_123 : decode M_Mo_keep.2.1 123 = .ok (.putfield 101, 3) := by decide +kernel
theorem d_Mo_keep_126 : decode M_Mo_keep.2.1 126 = .ok (.aload_n 0, 1) := by decide +kernel
theorem d_Mo_keep_127 : decode M_Mo_keep.2.1 127 = .ok (.aload_n 0, 1) := by decide +kernel
theorem d_Mo_keep_128 : decode M_Mo_keep.2.1 128 = .ok (.getfield 104, 3) := by decide +kernel
theorem d_Mo_keep_131 : decode M_Mo_keep.2.1 131 = .ok (.bipush 10, 2) := by decide +kernel
theorem d_Mo_keep_133 : decode M_Mo_keep.2.1 133 = .ok (.if_icmp .ne 8, 3) := by decide +kernel
theorem d_Mo_keep_136 : decode M_Mo_keep.2.1 136 = .ok (.bipush 10, 2) := by decide +kernel
theorem d_Mo_keep_138 : decode M_Mo_keep.2.1 138 = .ok (.goto 9, 3) := by decide +kernel
theorem d_Mo_keep_141 : decode M_Mo_keep.2.1 141 = .ok (.aload_n 0, 1) := by decide +kernel
theorem d_Mo_keep_142 : decode M_Mo_keep.2.1 142 = .ok (.getfield 104, 3) := by decide +kernel
theorem d_Mo_keep_145 : decode M_Mo_keep.2.1 145 = .ok (.iconst 1, 1) := by decide +kernel
theorem d_Mo_keep_146 : decode M_Mo_keep.2.1 146 = .ok (.iadd, 1) := by decide +kernel
theorem d_Mo_keep_147 : decode M_Mo_keep.2.1 147 = .ok (.putfield 104, 3) := by decide +kernel
theorem d_Mo_keep_150 : decode M_Mo_keep.2.1 150 = .ok (.return_, 1) := by decide +kernel
theorem cpy_up {F K : Nat → Int} {s b i : Nat} : zup (va_cpy F K s b i) (b + i) (F (s + i)) = va_cpy F K s b (i + 1) := by
  funext j
  show (if j = b + i then F (s + i) else if b ≤ j ∧ j < b + i then F (s + (j - b)) else K j) = if b ≤ j ∧ j < b + (i + 1) then F (s + (j - b)) else K j
  by_cases q : j = b + i
  · subst q
    rw [if_pos rfl, if_pos ⟨by omega, by omega⟩]
    congr 1
    omega
  · rw [if_neg q]
    by_cases q2 : b ≤ j ∧ j < b + i
    · rw [if_pos q2, if_pos ⟨q2.1, by omega⟩]
    · rw [if_neg q2, if_neg (by omega)]
theorem cpy_up0 {F K : Nat → Int} {b i : Nat} : zup (va_cpy F K 0 b i) (b + i) (F i) = va_cpy F K 0 b (i + 1) := by
  rw [← cpy_up, Nat.zero_add]
theorem cpy_up1 {F K : Nat → Int} {s i : Nat} : zup (va_cpy F K s 0 i) i (F (s + i)) = va_cpy F K s 0 (i + 1) := by
  rw [← cpy_up, Nat.zero_add]
theorem cpy_z {F K : Nat → Int} {s b : Nat} : va_cpy F K s b 0 = K := by
  funext j
  show (if b ≤ j ∧ j < b + 0 then F (s + (j - b)) else K j) = K j
  rw [if_neg (by omega)]
set_option maxHeartbeats 4000000 in
set_option maxRecDepth 100000 in
theorem c_Ro_copyFrom (G : GT) (h : HM) (r r1 r2 r3 r4 o o1 o2 o3 o4 : Nat) (n0 : Int) (n : Nat) (F1 F2 F3 F4 K1 K2 K3 K4 : Nat → Int) (hr : h r = some (.inr (2, [.ref r1, .ref r2, .ref r3, .ref r4, .int (iZ n0)]))) (hr1 : h r1 = some (.inl (G_j G, 16, .inr (.inl (lA F1))))) (hr2 : h r2 = some (.inl (G_j G, 16, .inr (.inl (lA F2))))) (hr3 : h r3 = some (.inl (G_i G, 16, .inl (iA F3)))) (hr4 : h r4 = some (.inl (G_i G, 1024, .inl (iA F4)))) (ho : h o = some (.inr (2, [.ref o1, .ref o2, .ref o3, .ref o4, .int (iZ (n : Int))]))) (ho1 : h o1 = some (.inl (G_j G, 16, .inr (.inl (lA K1))))) (ho2 : h o2 = some (.inl (G_j G, 16, .inr (.inl (lA K2))))) (ho3 : h o3 = some (.inl (G_i G, 16, .inl (iA K3)))) (ho4 : h o4 = some (.inl (G_i G, 1024, .inl (iA K4)))) (hn : n ≤ 16) (n_r_o : r ≠ o) (n_r1_r2 : r1 ≠ r2) (n_r1_o1 : r1 ≠ o1) (n_r1_o2 : r1 ≠ o2) (n_r2_o1 : r2 ≠ o1) (n_r2_o2 : r2 ≠ o2) (n_r3_o3 : r3 ≠ o3) (n_r4_o4 : r4 ≠ o4) (n_o1_o2 : o1 ≠ o2) : Rn G M_Ro_copyFrom (rm 1 40) [.ref r, .ref o] h (fun r_ h' => r_ = none ∧ h' r = some (.inr (2, [.ref r1, .ref r2, .ref r3, .ref r4, .int (iZ (n : Int))])) ∧ h' r1 = some (.inl (G_j G, 16, .inr (.inl (lA (va_cpy K1 F1 0 0 n))))) ∧ h' r2 = some (.inl (G_j G, 16, .inr (.inl (lA (va_cpy K2 F2 0 0 n))))) ∧ h' r3 = some (.inl (G_i G, 16, .inl (iA (va_cpy K3 F3 0 0 n)))) ∧ h' r4 = some (.inl (G_i G, 1024, .inl (iA (va_cpy K4 F4 0 0 (n * 64))))) ∧ Fm [r, r1, r2, r3, r4] h h') := by
  refine rn_of (by decide) (Nat.le_of_ble_eq_true rfl) ?_
  show Ev G M_Ro_copyFrom _ _ 0 [(0, .ref r), (1, .ref o)] [] _ 0 0
  have fm : Fm [r, r1, r2, r3, r4] h h := Fm.rf
  refine ev_aload_n d_Ro_copyFrom_0 rfl rfl ?_
  refine ev_aload_n d_Ro_copyFrom_1 rfl rfl ?_
  refine ev_get d_Ro_copyFrom_2 fl_Ro_25 ho rfl ?_
  refine ev_put2 (fs' := [.ref r1, .ref r2, .ref r3, .ref r4, .int (iZ (n : Int))]) d_Ro_copyFrom_5 fw_Ro_25 (Or.inr (fun _ _ _ q => by cases q; rfl)) hr (Nat.le_of_ble_eq_true rfl) rfl rfl rfl (fun h1 h1a h1o => ?_)
  have hr1 := (h1o _ (cne hr1 hr (by simp))).trans hr1
  have hr2 := (h1o _ (cne hr2 hr (by simp))).trans hr2
  have hr3 := (h1o _ (cne hr3 hr (by simp))).trans hr3
  have hr4 := (h1o _ (cne hr4 hr (by simp))).trans hr4
  have ho := (h1o _ (Ne.symm n_r_o)).trans ho
  have ho1 := (h1o _ (cne ho1 hr (by simp))).trans ho1
  have ho2 := (h1o _ (cne ho2 hr (by simp))).trans ho2
  have ho3 := (h1o _ (cne ho3 hr (by simp))).trans ho3
  have ho4 := (h1o _ (cne ho4 hr (by simp))).trans ho4
  have hr := h1a
  have fm := fm.step (by simp) h1o
  refine ev_aload_n d_Ro_copyFrom_8 rfl rfl ?_
  refine ev_get d_Ro_copyFrom_9 fl_Ro_9 ho rfl ?_
  refine ev_iconst (v := iZ 0) d_Ro_copyFrom_12 rfl ?_
  refine ev_aload_n d_Ro_copyFrom_13 rfl rfl ?_
  refine ev_get d_Ro_copyFrom_14 fl_Ro_9 hr rfl ?_
  refine ev_iconst (v := iZ 0) d_Ro_copyFrom_17 rfl ?_
  refine ev_aload_n d_Ro_copyFrom_18 rfl rfl ?_
  refine ev_get d_Ro_copyFrom_19 fl_Ro_25 hr rfl ?_
  refine ez_copyl (F' := va_cpy K1 F1 0 0 n) 0 0 n d_Ro_copyFrom_22 ml_Ro_44 nat_copy sta_copy in_System ho1 hr1 (by omega) (by omega) (by omega) (by omega) (by omega) (by decide) (by decide) (by decide) (by decide) rfl (fun h2 h2a h2o => ?_)
  have hr := (h2o _ (cne hr hr1 (by simp))).trans hr
  have hr2 := (h2o _ (Ne.symm n_r1_r2)).trans hr2
  have hr3 := (h2o _ (cne hr3 hr1 (by simp))).trans hr3
  have hr4 := (h2o _ (cne hr4 hr1 (by simp))).trans hr4
  have ho := (h2o _ (cne ho hr1 (by simp))).trans ho
  have ho1 := (h2o _ (Ne.symm n_r1_o1)).trans ho1
  have ho2 := (h2o _ (Ne.symm n_r1_o2)).trans ho2
  have ho3 := (h2o _ (cne ho3 hr1 (by simp))).trans ho3
  have ho4 := (h2o _ (cne ho4 hr1 (by simp))).trans ho4
  have hr1 := h2a
  have fm := fm.step (by simp) h2o
  refine ev_aload_n d_Ro_copyFrom_25 rfl rfl ?_
  refine ev_get d_Ro_copyFrom_26 fl_Ro_15 ho rfl ?_
  refine ev_iconst (v := iZ 0) d_Ro_copyFrom_29 rfl ?_
  refine ev_aload_n d_Ro_copyFrom_30 rfl rfl ?_
  refine ev_get d_Ro_copyFrom_31 fl_Ro_15 hr rfl ?_
  refine ev_iconst (v := iZ 0) d_Ro_copyFrom_34 rfl ?_
  refine ev_aload_n d_Ro_copyFrom_35 rfl rfl ?_
  refine ev_get d_Ro_copyFrom_36 fl_Ro_25 hr rfl ?_
  refine ez_copyl (F' := va_cpy K2 F2 0 0 n) 0 0 n d_Ro_copyFrom_39 ml_Ro_44 nat_copy sta_copy in_System ho2 hr2 (by omega) (by omega) (by omega) (by omega) (by omega) (by decide) (by decide) (by decide) (by decide) rfl (fun h3 h3a h3o => ?_)
  have hr := (h3o _ (cne hr hr2 (by simp))).trans hr
  have hr1 := (h3o _ n_r1_r2).trans hr1
  have hr3 := (h3o _ (cne hr3 hr2 (by simp))).trans hr3
  have hr4 := (h3o _ (cne hr4 hr2 (by simp))).trans hr4
  have ho := (h3o _ (cne ho hr2 (by simp))).trans ho
  have ho1 := (h3o _ (Ne.symm n_r2_o1)).trans ho1
  have ho2 := (h3o _ (Ne.symm n_r2_o2)).trans ho2
  have ho3 := (h3o _ (cne ho3 hr2 (by simp))).trans ho3
  have ho4 := (h3o _ (cne ho4 hr2 (by simp))).trans ho4
  have hr2 := h3a
  have fm := fm.step (by simp) h3o
  refine ev_aload_n d_Ro_copyFrom_42 rfl rfl ?_
  refine ev_get d_Ro_copyFrom_43 fl_Ro_18 ho rfl ?_
  refine ev_iconst (v := iZ 0) d_Ro_copyFrom_46 rfl ?_
  refine ev_aload_n d_Ro_copyFrom_47 rfl rfl ?_
  refine ev_get d_Ro_copyFrom_48 fl_Ro_18 hr rfl ?_
  refine ev_iconst (v := iZ 0) d_Ro_copyFrom_51 rfl ?_
  refine ev_aload_n d_Ro_copyFrom_52 rfl rfl ?_
  refine ev_get d_Ro_copyFrom_53 fl_Ro_25 hr rfl ?_
  refine ez_copyi (F' := va_cpy K3 F3 0 0 n) 0 0 n d_Ro_copyFrom_56 ml_Ro_44 nat_copy sta_copy in_System ho3 hr3 (by omega) (by omega) (by omega) (by omega) (by omega) (by decide) (by decide) (by decide) (by decide) rfl (fun h4 h4a h4o => ?_)
  have hr := (h4o _ (cne hr hr3 (by simp))).trans hr
  have hr1 := (h4o _ (cne hr1 hr3 (by simp))).trans hr1
  have hr2 := (h4o _ (cne hr2 hr3 (by simp))).trans hr2
  have hr4 := (h4o _ (cne hr4 hr3 (by simp))).trans hr4
  have ho := (h4o _ (cne ho hr3 (by simp))).trans ho
  have ho1 := (h4o _ (cne ho1 hr3 (by simp))).trans ho1
  have ho2 := (h4o _ (cne ho2 hr3 (by simp))).trans ho2
  have ho3 := (h4o _ (Ne.symm n_r3_o3)).trans ho3
  have ho4 := (h4o _ (cne ho4 hr3 (by simp))).trans ho4
  have hr3 := h4a
  have fm := fm.step (by simp) h4o
  refine ev_aload_n d_Ro_copyFrom_59 rfl rfl ?_
  refine ev_get d_Ro_copyFrom_60 fl_Ro_22 ho rfl ?_
  refine ev_iconst (v := iZ 0) d_Ro_copyFrom_63 rfl ?_
  refine ev_aload_n d_Ro_copyFrom_64 rfl rfl ?_
  refine ev_get d_Ro_copyFrom_65 fl_Ro_22 hr rfl ?_
  refine ev_iconst (v := iZ 0) d_Ro_copyFrom_68 rfl ?_
  refine ev_aload_n d_Ro_copyFrom_69 rfl rfl ?_
  refine ev_get d_Ro_copyFrom_70 fl_Ro_25 hr rfl ?_
  refine ev_bipush (v := iZ 64) d_Ro_copyFrom_73 rfl ?_
  refine ez_imul d_Ro_copyFrom_75 ?_
  refine ez_copyi (F' := va_cpy K4 F4 0 0 (n * 64)) 0 0 (n * 64) d_Ro_copyFrom_76 ml_Ro_44 nat_copy sta_copy in_System ho4 hr4 (by omega) (by omega) (by omega) (by omega) (by omega) (by decide) (by decide) (by decide) (by decide) rfl (fun h5 h5a h5o => ?_)
  have hr := (h5o _ (cne hr hr4 (by simp))).trans hr
  have hr1 := (h5o _ (cne hr1 hr4 (by simp))).trans hr1
  have hr2 := (h5o _ (cne hr2 hr4 (by simp))).trans hr2
  have hr3 := (h5o _ (cne hr3 hr4 (by simp))).trans hr3
  have ho := (h5o _ (cne ho hr4 (by simp))).trans ho
  have ho1 := (h5o _ (cne ho1 hr4 (by simp))).trans ho1
  have ho2 := (h5o _ (cne ho2 hr4 (by simp))).trans ho2
  have ho3 := (h5o _ (cne ho3 hr4 (by simp))).trans ho3
  have ho4 := (h5o _ (Ne.symm n_r4_o4)).trans ho4
  have hr4 := h5a
  have fm := fm.step (by simp) h5o
  exact ev_return d_Ro_copyFrom_79 rfl (by decide) (by decide) (⟨rfl, hr, hr1, hr2, hr3, hr4, fm⟩)
set_option maxHeartbeats 4000000 in
set_option maxRecDepth 100000 in
theorem c_Pa_keepN (G : GT) (h : HM) (p pk o o1 o2 o3 o4 : Nat) (Kp : Nat → Option Nat) (nx ct n : Nat) (K1 K2 K3 K4 : Nat → Int) (hp : h p = some (.inr (7, [.ref pk, .int (iZ (nx : Int)), .int (iZ (ct : Int))]))) (hpk : h pk = some (.inl (G_q G, 10, .inr (.inr (.inr (.inr Kp)))))) (ho : h o = some (.inr (2, [.ref o1, .ref o2, .ref o3, .ref o4, .int (iZ (n : Int))]))) (ho1 : h o1 = some (.inl (G_j G, 16, .inr (.inl (lA K1))))) (ho2 : h o2 = some (.inl (G_j G, 16, .inr (.inl (lA K2))))) (ho3 : h o3 = some (.inl (G_i G, 16, .inl (iA K3)))) (ho4 : h o4 = some (.inl (G_i G, 1024, .inl (iA K4)))) (hnx : nx < 10) (hct : ct ≤ 10) (hn : n ≤ 16) (hK0 : Kp nx = none) (n_o1_o2 : o1 ≠ o2) : Rn G M_Pa_keep ({ frames := 2, cells := 5, slots := 1077, locals := 61 }) [.ref p, .ref o] h (fun r h' => r = none ∧ ∃ q q1 q2 q3 q4 : Nat, (∀ b e, h b = some e → b < q) ∧ q < q1 ∧ q1 < q2 ∧ q2 < q3 ∧ q3 < q4 ∧ h' p = some (.inr (7, [.ref pk, .int (iZ (((nx + 1) % 10 : Nat) : Int)), .int (iZ ((min (ct + 1) 10 : Nat) : Int))])) ∧ h' pk = some (.inl (G_q G, 10, .inr (.inr (.inr (.inr (va_up Kp nx (some q))))))) ∧ h' q = some (.inr (2, [.ref q1, .ref q2, .ref q3, .ref q4, .int (iZ (n : Int))])) ∧ h' q1 = some (.inl (G_j G, 16, .inr (.inl (lA (va_cpy K1 (fun _ => 0) 0 0 n))))) ∧ h' q2 = some (.inl (G_j G, 16, .inr (.inl (lA (va_cpy K2 (fun _ => 0) 0 0 n))))) ∧ h' q3 = some (.inl (G_i G, 16, .inl (iA (va_cpy K3 (fun _ => 0) 0 0 n)))) ∧ h' q4 = some (.inl (G_i G, 1024, .inl (iA (va_cpy K4 (fun _ => 0) 0 0 (n * 64))))) ∧ Fx [p, pk] h h') := by
  refine rn_of (by decide) (Nat.le_of_ble_eq_true rfl) ?_
  show Ev G M_Pa_keep _ _ 0 [(0, .ref p), (1, .ref o)] [] _ 0 0
  refine ev_aload_n d_Pa_keep_0 rfl rfl ?_
  refine ev_get d_Pa_keep_1 fl_Pa_11 hp rfl ?_
  refine ev_aload_n d_Pa_keep_4 rfl rfl ?_
  refine ev_get d_Pa_keep_5 fl_Pa_15 hp rfl ?_
  refine ev_aaload d_Pa_keep_8 hpk (iZ_in (j := nx) rfl (by omega) (by decide)) ?_
  rw [iZ_cl (j := nx) rfl (by omega), hK0]
  refine ev_ifnonnullN d_Pa_keep_9 ?_
  refine ev_aload_n d_Pa_keep_12 rfl rfl ?_
  refine ev_get d_Pa_keep_13 fl_Pa_11 hp rfl ?_
  refine ev_aload_n d_Pa_keep_16 rfl rfl ?_
  refine ev_get d_Pa_keep_17 fl_Pa_15 hp rfl ?_
  refine ez_new 5 d_Pa_keep_20 nc_Pa_9 rfl (by decide) (by decide) (fun q h1 ltq hq h1o => ?_)
  have hq0 := hq
  have hp_l := ltq _ _ hp
  have hpk_l := ltq _ _ hpk
  have ho_l := ltq _ _ ho
  have ho1_l := ltq _ _ ho1
  have ho2_l := ltq _ _ ho2
  have ho3_l := ltq _ _ ho3
  have ho4_l := ltq _ _ ho4
  have hp := (h1o _ (Nat.ne_of_lt hp_l)).trans hp
  have hpk := (h1o _ (Nat.ne_of_lt hpk_l)).trans hpk
  have ho := (h1o _ (Nat.ne_of_lt ho_l)).trans ho
  have ho1 := (h1o _ (Nat.ne_of_lt ho1_l)).trans ho1
  have ho2 := (h1o _ (Nat.ne_of_lt ho2_l)).trans ho2
  have ho3 := (h1o _ (Nat.ne_of_lt ho3_l)).trans ho3
  have ho4 := (h1o _ (Nat.ne_of_lt ho4_l)).trans ho4
  have fx : Fx [p, pk] h h1 := Fx.rf.new ltq h1o
  refine ev_dup d_Pa_keep_23 rfl ?_
  refine ev_callI M_Ro_init ({ frames := 1, cells := 4, slots := 1072, locals := 12 }) _ (As := []) (c_Ro_init G h1 q hq) d_Pa_keep_24 mk_Ro_init ml_Pa_19 ⟨rfl, rfl⟩ mi_Ro_init rfl rfl (Nat.le_of_ble_eq_true rfl) ⟨by decide, by decide⟩ ⟨by decide, by decide⟩ (fun r h2 hr => ?_)
  obtain ⟨rfl, q1, q2, q3, q4, lt1, o2_, o3_, o4_, hq, hq1, hq2, hq3, hq4, fx2⟩ := hr
  have o1_ : q < q1 := lt1 _ _ hq0
  have hp_l1 := lt1 _ _ hp
  have hpk_l1 := lt1 _ _ hpk
  have ho_l1 := lt1 _ _ ho
  have ho1_l1 := lt1 _ _ ho1
  have ho2_l1 := lt1 _ _ ho2
  have ho3_l1 := lt1 _ _ ho3
  have ho4_l1 := lt1 _ _ ho4
  have hp := fx2 _ _ hp (ninc (by omega) nin0)
  have hpk := fx2 _ _ hpk (ninc (by omega) nin0)
  have ho := fx2 _ _ ho (ninc (by omega) nin0)
  have ho1 := fx2 _ _ ho1 (ninc (by omega) nin0)
  have ho2 := fx2 _ _ ho2 (ninc (by omega) nin0)
  have ho3 := fx2 _ _ ho3 (ninc (by omega) nin0)
  have ho4 := fx2 _ _ ho4 (ninc (by omega) nin0)
  have fx : Fx [p, pk] h h2 := fx.call fx2 (by intro x hx9; rcases List.mem_cons.mp hx9 with rfl | hx9; exact Or.inr (fun b e hb9 => Nat.ne_of_lt (ltq b e hb9)); exact absurd hx9 nin0)
  refine ev_aastore d_Pa_keep_27 hpk hq rfl (iZ_in (j := nx) rfl (by omega) (by decide)) ?_
  rw [iZ_cl (j := nx) rfl (by omega)]
  generalize h3e : hup h2 pk (.inl (G_q G, 10, .inr (.inr (.inr (.inr (va_up Kp nx (some q))))))) = h3
  have h3a : h3 pk = some (.inl (G_q G, 10, .inr (.inr (.inr (.inr (va_up Kp nx (some q))))))) := by rw [← h3e]; exact hup_s
  have h3o : ∀ b, b ≠ pk → h3 b = h2 b := fun b hb => by rw [← h3e]; exact hup_n hb
  have hp := (h3o _ (cne hp hpk (by simp))).trans hp
  have ho := (h3o _ (cne ho hpk (by simp))).trans ho
  have ho1 := (h3o _ (cne ho1 hpk (by simp))).trans ho1
  have ho2 := (h3o _ (cne ho2 hpk (by simp))).trans ho2
  have ho3 := (h3o _ (cne ho3 hpk (by simp))).trans ho3
  have ho4 := (h3o _ (cne ho4 hpk (by simp))).trans ho4
  have hq := (h3o _ (cne hq hpk (by simp))).trans hq
  have hq1 := (h3o _ (cne hq1 hpk (by simp))).trans hq1
  have hq2 := (h3o _ (cne hq2 hpk (by simp))).trans hq2
  have hq3 := (h3o _ (cne hq3 hpk (by simp))).trans hq3
  have hq4 := (h3o _ (cne hq4 hpk (by simp))).trans hq4
  have hpk := h3a
  have fx := fx.step (by simp) h3o
  refine ev_aload_n d_Pa_keep_28 rfl rfl ?_
  refine ev_get d_Pa_keep_29 fl_Pa_11 hp rfl ?_
  refine ev_aload_n d_Pa_keep_32 rfl rfl ?_
  refine ev_get d_Pa_keep_33 fl_Pa_15 hp rfl ?_
  refine ev_aaload d_Pa_keep_36 hpk (iZ_in (j := nx) rfl (by omega) (by decide)) ?_
  rw [iZ_cl (j := nx) rfl (by omega), show va_up Kp nx (some q) nx = some q from if_pos rfl]
  refine ev_aload_n d_Pa_keep_37 rfl rfl ?_
  refine ev_callV M_Ro_copyFrom (rm 1 40) _ (As := [.ref o]) (c_Ro_copyFrom G h3 q q1 q2 q3 q4 o o1 o2 o3 o4 0 n _ _ _ _ K1 K2 K3 K4 hq hq1 hq2 hq3 hq4 ho ho1 ho2 ho3 ho4 hn (by omega) (by omega) (by omega) (by omega) (by omega) (by omega) (by omega) (by omega) n_o1_o2) d_Pa_keep_38 mk_Ro_copyFrom ml_Pa_20 mv_Ro_copyFrom hq rfl rfl rfl (Nat.le_of_ble_eq_true rfl) ⟨by decide, by decide⟩ ⟨by decide, by decide⟩ (fun r h4 hr => ?_)
  obtain ⟨rfl, c0, c1, c2, c3, c4, fm4⟩ := hr
  have hp := (fm4 _ (ninc (by omega) (ninc (by omega) (ninc (by omega) (ninc (by omega) (ninc (by omega) nin0)))))).trans hp
  have hpk := (fm4 _ (ninc (by omega) (ninc (by omega) (ninc (by omega) (ninc (by omega) (ninc (by omega) nin0)))))).trans hpk
  have ho := (fm4 _ (ninc (by omega) (ninc (by omega) (ninc (by omega) (ninc (by omega) (ninc (by omega) nin0)))))).trans ho
  have ho1 := (fm4 _ (ninc (by omega) (ninc (by omega) (ninc (by omega) (ninc (by omega) (ninc (by omega) nin0)))))).trans ho1
  have ho2 := (fm4 _ (ninc (by omega) (ninc (by omega) (ninc (by omega) (ninc (by omega) (ninc (by omega) nin0)))))).trans ho2
  have ho3 := (fm4 _ (ninc (by omega) (ninc (by omega) (ninc (by omega) (ninc (by omega) (ninc (by omega) nin0)))))).trans ho3
  have ho4 := (fm4 _ (ninc (by omega) (ninc (by omega) (ninc (by omega) (ninc (by omega) (ninc (by omega) nin0)))))).trans ho4
  have hq := c0
  have hq1 := c1
  have hq2 := c2
  have hq3 := c3
  have hq4 := c4
  have fx : Fx [p, pk] h h4 := fun b e hb9 hn9 => (fm4 b (by have z := ltq b e hb9; exact ninc (by omega) (ninc (by omega) (ninc (by omega) (ninc (by omega) (ninc (by omega) nin0)))))).trans (fx b e hb9 hn9)
  refine ev_aload_n d_Pa_keep_41 rfl rfl ?_
  refine ev_aload_n d_Pa_keep_42 rfl rfl ?_
  refine ev_get d_Pa_keep_43 fl_Pa_15 hp rfl ?_
  refine ev_iconst (v := iZ 1) d_Pa_keep_46 rfl ?_
  refine ez_iadd d_Pa_keep_47 ?_
  refine ev_bipush (v := iZ 10) d_Pa_keep_48 rfl ?_
  refine ez_irem (by omega) (by omega) (by omega) (by omega) d_Pa_keep_50 ?_
  rw [show (((nx : Int) + 1) % 10 : Int) = (((nx + 1) % 10 : Nat) : Int) from by omega]
  refine ev_put2 (fs' := [.ref pk, .int (iZ (((nx + 1) % 10 : Nat) : Int)), .int (iZ (ct : Int))]) d_Pa_keep_51 fw_Pa_15 (Or.inr (fun _ _ _ q => by cases q; rfl)) hp (Nat.le_of_ble_eq_true rfl) rfl rfl rfl (fun h1 h1a h1o => ?_)
  have hpk := (h1o _ (cne hpk hp (by simp))).trans hpk
  have ho := (h1o _ (cne ho hp (by simp))).trans ho
  have ho1 := (h1o _ (cne ho1 hp (by simp))).trans ho1
  have ho2 := (h1o _ (cne ho2 hp (by simp))).trans ho2
  have ho3 := (h1o _ (cne ho3 hp (by simp))).trans ho3
  have ho4 := (h1o _ (cne ho4 hp (by simp))).trans ho4
  have hq := (h1o _ (cne hq hp (by simp))).trans hq
  have hq1 := (h1o _ (cne hq1 hp (by simp))).trans hq1
  have hq2 := (h1o _ (cne hq2 hp (by simp))).trans hq2
  have hq3 := (h1o _ (cne hq3 hp (by simp))).trans hq3
  have hq4 := (h1o _ (cne hq4 hp (by simp))).trans hq4
  have hp := h1a
  have fx := fx.step (by simp) h1o
  refine ev_aload_n d_Pa_keep_54 rfl rfl ?_
  refine ev_get d_Pa_keep_55 fl_Pa_24 hp rfl ?_
  refine ev_bipush (v := iZ 10) d_Pa_keep_58 rfl ?_
  refine ez_icmp_ge (tgt := 73) (by omega) (by decide) d_Pa_keep_60 rfl (fun c60 => ?_) (fun c60 => ?_)
  · exact ev_return d_Pa_keep_73 rfl (by decide) (by decide) (⟨rfl, q, q1, q2, q3, q4, ltq, o1_, o2_, o3_, o4_, by rw [show (min (ct + 1) 10 : Nat) = ct by omega]; exact hp, hpk, hq, hq1, hq2, hq3, hq4, fx⟩)
  · refine ev_aload_n d_Pa_keep_63 rfl rfl ?_
    refine ev_dup d_Pa_keep_64 rfl ?_
    refine ev_get d_Pa_keep_65 fl_Pa_24 hp rfl ?_
    refine ev_iconst (v := iZ 1) d_Pa_keep_68 rfl ?_
    refine ez_iadd d_Pa_keep_69 ?_
    refine ev_put2 (fs' := [.ref pk, .int (iZ (((nx + 1) % 10 : Nat) : Int)), .int (iZ ((ct : Int) + 1))]) d_Pa_keep_70 fw_Pa_24 (Or.inr (fun _ _ _ q => by cases q; rfl)) hp (Nat.le_of_ble_eq_true rfl) rfl rfl rfl (fun h2 h2a h2o => ?_)
    have hpk := (h2o _ (cne hpk hp (by simp))).trans hpk
    have ho := (h2o _ (cne ho hp (by simp))).trans ho
    have ho1 := (h2o _ (cne ho1 hp (by simp))).trans ho1
    have ho2 := (h2o _ (cne ho2 hp (by simp))).trans ho2
    have ho3 := (h2o _ (cne ho3 hp (by simp))).trans ho3
    have ho4 := (h2o _ (cne ho4 hp (by simp))).trans ho4
    have hq := (h2o _ (cne hq hp (by simp))).trans hq
    have hq1 := (h2o _ (cne hq1 hp (by simp))).trans hq1
    have hq2 := (h2o _ (cne hq2 hp (by simp))).trans hq2
    have hq3 := (h2o _ (cne hq3 hp (by simp))).trans hq3
    have hq4 := (h2o _ (cne hq4 hp (by simp))).trans hq4
    have hp := h2a
    have fx := fx.step (by simp) h2o
    exact ev_return d_Pa_keep_73 rfl (by decide) (by decide) (⟨rfl, q, q1, q2, q3, q4, ltq, o1_, o2_, o3_, o4_, by rw [show ((min (ct + 1) 10 : Nat) : Int) = (ct : Int) + 1 by omega]; exact hp, hpk, hq, hq1, hq2, hq3, hq4, fx⟩)
set_option maxHeartbeats 4000000 in
set_option maxRecDepth 100000 in
theorem lp_Mo_keep1 (G : GT) (Q : Option Value → HM → Prop) (h0 : HM) (a : Nat) (ha : a < 10) (σ : Nat → Value) (m s1 s2 s3 s4 k0 k1 k2 k3 k4 : Nat) (n : Int) (c bk : Nat) (S1 S2 S3 S4 K0 K1 K2 K3 K4 : Nat → Int) (f4 : σ 4 = .int (iZ n)) (f5 : σ 5 = .ref s1) (f6 : σ 6 = .ref s2) (f7 : σ 7 = .ref s3) (f8 : σ 8 = .ref s4) (f9 : σ 9 = .int (iZ (c : Int))) (f10 : σ 10 = .int (iZ (bk : Int))) (f11 : σ 11 = .ref k0) (f12 : σ 12 = .ref k1) (f13 : σ 13 = .ref k2) (f14 : σ 14 = .ref k3) (f15 : σ 15 = .ref k4) (n_s : s1 ≠ s2) (n_k : k1 ≠ k2) (kk : ∀ h, h m = some (.inr (11, fsN 34 σ)) → h s1 = some (.inl (G_j G, 16, .inr (.inl (lA S1)))) → h s2 = some (.inl (G_j G, 16, .inr (.inl (lA S2)))) → h s3 = some (.inl (G_i G, 16, .inl (iA S3))) → h s4 = some (.inl (G_i G, 1024, .inl (iA S4))) → h k0 = some (.inl (G_i G, 10, .inl (iA K0))) → h k1 = some (.inl (G_j G, 160, .inr (.inl (lA (va_cpy S1 K1 0 (16 * a) 16))))) → h k2 = some (.inl (G_j G, 160, .inr (.inl (lA (va_cpy S2 K2 0 (16 * a) 16))))) → h k3 = some (.inl (G_i G, 160, .inl (iA (va_cpy S3 K3 0 (16 * a) 16)))) → h k4 = some (.inl (G_i G, 10240, .inl (iA K4))) → Fm [m, k0, k1, k2, k3, k4] h0 h → Ev G M_Mo_keep (rm 0 0) Q 83 [(0, .ref m), (1, .int (iZ (a : Int))), (2, .int (iZ ((16 : Nat) : Int)))] [] h 0 0) : ∀ (d : Nat) (i : Nat) (h : HM), i + d = 16 → h m = some (.inr (11, fsN 34 σ)) → h s1 = some (.inl (G_j G, 16, .inr (.inl (lA S1)))) → h s2 = some (.inl (G_j G, 16, .inr (.inl (lA S2)))) → h s3 = some (.inl (G_i G, 16, .inl (iA S3))) → h s4 = some (.inl (G_i G, 1024, .inl (iA S4))) → h k0 = some (.inl (G_i G, 10, .inl (iA K0))) → h k1 = some (.inl (G_j G, 160, .inr (.inl (lA (va_cpy S1 K1 0 (16 * a) i))))) → h k2 = some (.inl (G_j G, 160, .inr (.inl (lA (va_cpy S2 K2 0 (16 * a) i))))) → h k3 = some (.inl (G_i G, 160, .inl (iA (va_cpy S3 K3 0 (16 * a) i)))) → h k4 = some (.inl (G_i G, 10240, .inl (iA K4))) → Fm [m, k0, k1, k2, k3, k4] h0 h → Ev G M_Mo_keep (rm 0 0) (Q) 20 [(0, .ref m), (1, .int (iZ (a : Int))), (2, .int (iZ (i : Int)))] [] h 0 0 := by
  intro d
  induction d using Nat.strongRecOn with
  | ind d ih =>
  intro i h hd hm hs1 hs2 hs3 hs4 hk0 hk1 hk2 hk3 hk4 fm
  refine ev_iload_n d_Mo_keep_20 rfl rfl ?_
  refine ev_bipush (v := iZ 16) d_Mo_keep_21 rfl ?_
  refine ez_icmp_ge (tgt := 83) (by omega) (by decide) d_Mo_keep_23 rfl (fun c23 => ?_) (fun c23 => ?_)
  · obtain rfl : i = 16 := by omega
    exact kk h hm hs1 hs2 hs3 hs4 hk0 hk1 hk2 hk3 hk4 fm
  · refine ev_aload_n d_Mo_keep_26 rfl rfl ?_
    refine ev_getF d_Mo_keep_27 fl_Mo_36 hm (by decide) f12 ?_
    refine ev_bipush (v := iZ 16) d_Mo_keep_30 rfl ?_
    refine ev_iload_n d_Mo_keep_32 rfl rfl ?_
    refine ez_imul d_Mo_keep_33 ?_
    refine ev_iload_n d_Mo_keep_34 rfl rfl ?_
    refine ez_iadd d_Mo_keep_35 ?_
    refine ev_aload_n d_Mo_keep_36 rfl rfl ?_
    refine ev_getF d_Mo_keep_37 fl_Mo_20 hm (by decide) f5 ?_
    refine ev_iload_n d_Mo_keep_40 rfl rfl ?_
    refine ez_laload i d_Mo_keep_41 hs1 (by omega) (by omega) (by decide) ?_
    refine ez_lastore (F' := zup (va_cpy S1 K1 0 (16 * a) i) ((16 * a) + i) (S1 i)) ((16 * a) + i) d_Mo_keep_42 hk1 (by omega) (by omega) (by decide) rfl (fun h1 h1a h1o => ?_)
    have hm := (h1o _ (cne hm hk1 (by simp))).trans hm
    have hs1 := (h1o _ (cne hs1 hk1 (by simp))).trans hs1
    have hs2 := (h1o _ (cne hs2 hk1 (by simp))).trans hs2
    have hs3 := (h1o _ (cne hs3 hk1 (by simp))).trans hs3
    have hs4 := (h1o _ (cne hs4 hk1 (by simp))).trans hs4
    have hk0 := (h1o _ (cne hk0 hk1 (by simp))).trans hk0
    have hk2 := (h1o _ (Ne.symm n_k)).trans hk2
    have hk3 := (h1o _ (cne hk3 hk1 (by simp))).trans hk3
    have hk4 := (h1o _ (cne hk4 hk1 (by simp))).trans hk4
    have hk1 := h1a
    have fm := fm.step (by simp) h1o
    refine ev_aload_n d_Mo_keep_43 rfl rfl ?_
    refine ev_getF d_Mo_keep_44 fl_Mo_39 hm (by decide) f13 ?_
    refine ev_bipush (v := iZ 16) d_Mo_keep_47 rfl ?_
    refine ev_iload_n d_Mo_keep_49 rfl rfl ?_
    refine ez_imul d_Mo_keep_50 ?_
    refine ev_iload_n d_Mo_keep_51 rfl rfl ?_
    refine ez_iadd d_Mo_keep_52 ?_
    refine ev_aload_n d_Mo_keep_53 rfl rfl ?_
    refine ev_getF d_Mo_keep_54 fl_Mo_24 hm (by decide) f6 ?_
    refine ev_iload_n d_Mo_keep_57 rfl rfl ?_
    refine ez_laload i d_Mo_keep_58 hs2 (by omega) (by omega) (by decide) ?_
    refine ez_lastore (F' := zup (va_cpy S2 K2 0 (16 * a) i) ((16 * a) + i) (S2 i)) ((16 * a) + i) d_Mo_keep_59 hk2 (by omega) (by omega) (by decide) rfl (fun h2 h2a h2o => ?_)
    have hm := (h2o _ (cne hm hk2 (by simp))).trans hm
    have hs1 := (h2o _ (cne hs1 hk2 (by simp))).trans hs1
    have hs2 := (h2o _ (cne hs2 hk2 (by simp))).trans hs2
    have hs3 := (h2o _ (cne hs3 hk2 (by simp))).trans hs3
    have hs4 := (h2o _ (cne hs4 hk2 (by simp))).trans hs4
    have hk0 := (h2o _ (cne hk0 hk2 (by simp))).trans hk0
    have hk1 := (h2o _ n_k).trans hk1
    have hk3 := (h2o _ (cne hk3 hk2 (by simp))).trans hk3
    have hk4 := (h2o _ (cne hk4 hk2 (by simp))).trans hk4
    have hk2 := h2a
    have fm := fm.step (by simp) h2o
    refine ev_aload_n d_Mo_keep_60 rfl rfl ?_
    refine ev_getF d_Mo_keep_61 fl_Mo_42 hm (by decide) f14 ?_
    refine ev_bipush (v := iZ 16) d_Mo_keep_64 rfl ?_
    refine ev_iload_n d_Mo_keep_66 rfl rfl ?_
    refine ez_imul d_Mo_keep_67 ?_
    refine ev_iload_n d_Mo_keep_68 rfl rfl ?_
    refine ez_iadd d_Mo_keep_69 ?_
    refine ev_aload_n d_Mo_keep_70 rfl rfl ?_
    refine ev_getF d_Mo_keep_71 fl_Mo_27 hm (by decide) f7 ?_
    refine ev_iload_n d_Mo_keep_74 rfl rfl ?_
    refine ez_iaload i d_Mo_keep_75 hs3 (by omega) (by omega) (by decide) ?_
    refine ez_iastore (F' := zup (va_cpy S3 K3 0 (16 * a) i) ((16 * a) + i) (S3 i)) ((16 * a) + i) d_Mo_keep_76 hk3 (by omega) (by omega) (by decide) rfl (fun h3 h3a h3o => ?_)
    have hm := (h3o _ (cne hm hk3 (by simp))).trans hm
    have hs1 := (h3o _ (cne hs1 hk3 (by simp))).trans hs1
    have hs2 := (h3o _ (cne hs2 hk3 (by simp))).trans hs2
    have hs3 := (h3o _ (cne hs3 hk3 (by simp))).trans hs3
    have hs4 := (h3o _ (cne hs4 hk3 (by simp))).trans hs4
    have hk0 := (h3o _ (cne hk0 hk3 (by simp))).trans hk0
    have hk1 := (h3o _ (cne hk1 hk3 (by simp))).trans hk1
    have hk2 := (h3o _ (cne hk2 hk3 (by simp))).trans hk2
    have hk4 := (h3o _ (cne hk4 hk3 (by simp))).trans hk4
    have hk3 := h3a
    have fm := fm.step (by simp) h3o
    refine ez_iinc (L' := [(0, .ref m), (1, .int (iZ (a : Int))), (2, .int (iZ ((i + 1 : Nat) : Int)))]) d_Mo_keep_77 rfl (by decide) rfl ?_
    refine ev_goto (tgt := 20) d_Mo_keep_80 rfl ?_
    exact ih (d - 1) (by omega) (i + 1) h3 (by omega) hm hs1 hs2 hs3 hs4 hk0 (by rw [← cpy_up0]; exact hk1) (by rw [← cpy_up0]; exact hk2) (by rw [← cpy_up0]; exact hk3) hk4 fm
set_option maxHeartbeats 4000000 in
set_option maxRecDepth 100000 in
theorem lp_Mo_keep2 (G : GT) (Q : Option Value → HM → Prop) (h0 : HM) (a : Nat) (ha : a < 10) (σ : Nat → Value) (m s1 s2 s3 s4 k0 k1 k2 k3 k4 : Nat) (n : Int) (c bk : Nat) (S1 S2 S3 S4 K0 L1 L2 L3 K4 : Nat → Int) (f4 : σ 4 = .int (iZ n)) (f5 : σ 5 = .ref s1) (f6 : σ 6 = .ref s2) (f7 : σ 7 = .ref s3) (f8 : σ 8 = .ref s4) (f9 : σ 9 = .int (iZ (c : Int))) (f10 : σ 10 = .int (iZ (bk : Int))) (f11 : σ 11 = .ref k0) (f12 : σ 12 = .ref k1) (f13 : σ 13 = .ref k2) (f14 : σ 14 = .ref k3) (f15 : σ 15 = .ref k4) (n_s : s1 ≠ s2) (n_k : k1 ≠ k2) (kk : ∀ h, h m = some (.inr (11, fsN 34 σ)) → h s1 = some (.inl (G_j G, 16, .inr (.inl (lA S1)))) → h s2 = some (.inl (G_j G, 16, .inr (.inl (lA S2)))) → h s3 = some (.inl (G_i G, 16, .inl (iA S3))) → h s4 = some (.inl (G_i G, 1024, .inl (iA S4))) → h k0 = some (.inl (G_i G, 10, .inl (iA K0))) → h k1 = some (.inl (G_j G, 160, .inr (.inl (lA L1)))) → h k2 = some (.inl (G_j G, 160, .inr (.inl (lA L2)))) → h k3 = some (.inl (G_i G, 160, .inl (iA L3))) → h k4 = some (.inl (G_i G, 10240, .inl (iA (va_cpy S4 K4 0 (1024 * a) 1024)))) → Fm [m, k0, k1, k2, k3, k4] h0 h → Ev G M_Mo_keep (rm 0 0) Q 116 [(0, .ref m), (1, .int (iZ (a : Int))), (2, .int (iZ ((1024 : Nat) : Int)))] [] h 0 0) : ∀ (d : Nat) (i : Nat) (h : HM), i + d = 1024 → h m = some (.inr (11, fsN 34 σ)) → h s1 = some (.inl (G_j G, 16, .inr (.inl (lA S1)))) → h s2 = some (.inl (G_j G, 16, .inr (.inl (lA S2)))) → h s3 = some (.inl (G_i G, 16, .inl (iA S3))) → h s4 = some (.inl (G_i G, 1024, .inl (iA S4))) → h k0 = some (.inl (G_i G, 10, .inl (iA K0))) → h k1 = some (.inl (G_j G, 160, .inr (.inl (lA L1)))) → h k2 = some (.inl (G_j G, 160, .inr (.inl (lA L2)))) → h k3 = some (.inl (G_i G, 160, .inl (iA L3))) → h k4 = some (.inl (G_i G, 10240, .inl (iA (va_cpy S4 K4 0 (1024 * a) i)))) → Fm [m, k0, k1, k2, k3, k4] h0 h → Ev G M_Mo_keep (rm 0 0) (Q) 85 [(0, .ref m), (1, .int (iZ (a : Int))), (2, .int (iZ (i : Int)))] [] h 0 0 := by
  intro d
  induction d using Nat.strongRecOn with
  | ind d ih =>
  intro i h hd hm hs1 hs2 hs3 hs4 hk0 hk1 hk2 hk3 hk4 fm
  refine ev_iload_n d_Mo_keep_85 rfl rfl ?_
  refine ev_sipush (v := iZ 1024) d_Mo_keep_86 rfl ?_
  refine ez_icmp_ge (tgt := 116) (by omega) (by decide) d_Mo_keep_89 rfl (fun c89 => ?_) (fun c89 => ?_)
  · obtain rfl : i = 1024 := by omega
    exact kk h hm hs1 hs2 hs3 hs4 hk0 hk1 hk2 hk3 hk4 fm
  · refine ev_aload_n d_Mo_keep_92 rfl rfl ?_
    refine ev_getF d_Mo_keep_93 fl_Mo_45 hm (by decide) f15 ?_
    refine ev_sipush (v := iZ 1024) d_Mo_keep_96 rfl ?_
    refine ev_iload_n d_Mo_keep_99 rfl rfl ?_
    refine ez_imul d_Mo_keep_100 ?_
    refine ev_iload_n d_Mo_keep_101 rfl rfl ?_
    refine ez_iadd d_Mo_keep_102 ?_
    refine ev_aload_n d_Mo_keep_103 rfl rfl ?_
    refine ev_getF d_Mo_keep_104 fl_Mo_30 hm (by decide) f8 ?_
    refine ev_iload_n d_Mo_keep_107 rfl rfl ?_
    refine ez_iaload i d_Mo_keep_108 hs4 (by omega) (by omega) (by decide) ?_
    refine ez_iastore (F' := zup (va_cpy S4 K4 0 (1024 * a) i) ((1024 * a) + i) (S4 i)) ((1024 * a) + i) d_Mo_keep_109 hk4 (by omega) (by omega) (by decide) rfl (fun h1 h1a h1o => ?_)
    have hm := (h1o _ (cne hm hk4 (by simp))).trans hm
    have hs1 := (h1o _ (cne hs1 hk4 (by simp))).trans hs1
    have hs2 := (h1o _ (cne hs2 hk4 (by simp))).trans hs2
    have hs3 := (h1o _ (cne hs3 hk4 (by simp))).trans hs3
    have hs4 := (h1o _ (cne hs4 hk4 (by simp))).trans hs4
    have hk0 := (h1o _ (cne hk0 hk4 (by simp))).trans hk0
    have hk1 := (h1o _ (cne hk1 hk4 (by simp))).trans hk1
    have hk2 := (h1o _ (cne hk2 hk4 (by simp))).trans hk2
    have hk3 := (h1o _ (cne hk3 hk4 (by simp))).trans hk3
    have hk4 := h1a
    have fm := fm.step (by simp) h1o
    refine ez_iinc (L' := [(0, .ref m), (1, .int (iZ (a : Int))), (2, .int (iZ ((i + 1 : Nat) : Int)))]) d_Mo_keep_110 rfl (by decide) rfl ?_
    refine ev_goto (tgt := 85) d_Mo_keep_113 rfl ?_
    exact ih (d - 1) (by omega) (i + 1) h1 (by omega) hm hs1 hs2 hs3 hs4 hk0 hk1 hk2 hk3 (by rw [← cpy_up0]; exact hk4) fm
set_option maxHeartbeats 4000000 in
set_option maxRecDepth 100000 in
theorem c_Mo_keep (G : GT) (h : HM) (σ : Nat → Value) (m s1 s2 s3 s4 k0 k1 k2 k3 k4 : Nat) (n : Int) (c bk : Nat) (S1 S2 S3 S4 K0 K1 K2 K3 K4 : Nat → Int) (hm : h m = some (.inr (11, fsN 34 σ))) (f4 : σ 4 = .int (iZ n)) (f5 : σ 5 = .ref s1) (f6 : σ 6 = .ref s2) (f7 : σ 7 = .ref s3) (f8 : σ 8 = .ref s4) (f9 : σ 9 = .int (iZ (c : Int))) (f10 : σ 10 = .int (iZ (bk : Int))) (f11 : σ 11 = .ref k0) (f12 : σ 12 = .ref k1) (f13 : σ 13 = .ref k2) (f14 : σ 14 = .ref k3) (f15 : σ 15 = .ref k4) (hs1 : h s1 = some (.inl (G_j G, 16, .inr (.inl (lA S1))))) (hs2 : h s2 = some (.inl (G_j G, 16, .inr (.inl (lA S2))))) (hs3 : h s3 = some (.inl (G_i G, 16, .inl (iA S3)))) (hs4 : h s4 = some (.inl (G_i G, 1024, .inl (iA S4)))) (hk0 : h k0 = some (.inl (G_i G, 10, .inl (iA K0)))) (hk1 : h k1 = some (.inl (G_j G, 160, .inr (.inl (lA K1))))) (hk2 : h k2 = some (.inl (G_j G, 160, .inr (.inl (lA K2))))) (hk3 : h k3 = some (.inl (G_i G, 160, .inl (iA K3)))) (hk4 : h k4 = some (.inl (G_i G, 10240, .inl (iA K4)))) (hc : c ≤ 1000) (hbk : bk ≤ 10) (n_s : s1 ≠ s2) (n_k : k1 ≠ k2) : Rn G M_Mo_keep (rm 0 0) [.ref m] h (fun r h' => r = none ∧ (∃ σ', h' m = some (.inr (11, fsN 34 σ')) ∧ σ' 9 = .int (iZ ((c : Int) + 1)) ∧ σ' 10 = .int (iZ ((min (bk + 1) 10 : Nat) : Int)) ∧ Fs [9, 10] σ σ') ∧ h' k0 = some (.inl (G_i G, 10, .inl (iA (zup K0 (c % 10) n)))) ∧ h' k1 = some (.inl (G_j G, 160, .inr (.inl (lA (va_cpy S1 K1 0 (16 * (c % 10)) 16))))) ∧ h' k2 = some (.inl (G_j G, 160, .inr (.inl (lA (va_cpy S2 K2 0 (16 * (c % 10)) 16))))) ∧ h' k3 = some (.inl (G_i G, 160, .inl (iA (va_cpy S3 K3 0 (16 * (c % 10)) 16)))) ∧ h' k4 = some (.inl (G_i G, 10240, .inl (iA (va_cpy S4 K4 0 (1024 * (c % 10)) 1024)))) ∧ Fm [m, k0, k1, k2, k3, k4] h h') := by
  refine rn_of (by decide) (Nat.le_of_ble_eq_true rfl) ?_
  show Ev G M_Mo_keep _ _ 0 [(0, .ref m)] [] _ 0 0
  have fm : Fm [m, k0, k1, k2, k3, k4] h h := Fm.rf
  have fs : Fs [9, 10] σ σ := Fs.rf
  refine ev_aload_n d_Mo_keep_0 rfl rfl ?_
  refine ev_getF d_Mo_keep_1 fl_Mo_101 hm (by decide) f9 ?_
  refine ev_bipush (v := iZ 10) d_Mo_keep_4 rfl ?_
  refine ez_irem (by omega) (by omega) (by omega) (by omega) d_Mo_keep_6 ?_
  rw [show ((c : Int) % 10 : Int) = ((c % 10 : Nat) : Int) from by omega]
  refine ev_istore_n (L' := [(0, .ref m), (1, .int (iZ ((c % 10 : Nat) : Int)))]) d_Mo_keep_7 rfl (by decide) rfl ?_
  refine ev_aload_n d_Mo_keep_8 rfl rfl ?_
  refine ev_getF d_Mo_keep_9 fl_Mo_33 hm (by decide) f11 ?_
  refine ev_iload_n d_Mo_keep_12 rfl rfl ?_
  refine ev_aload_n d_Mo_keep_13 rfl rfl ?_
  refine ev_getF d_Mo_keep_14 fl_Mo_92 hm (by decide) f4 ?_
  refine ez_iastore (F' := zup K0 (c % 10) n) (c % 10) d_Mo_keep_17 hk0 (by omega) (by omega) (by decide) rfl (fun h1 h1a h1o => ?_)
  have hm := (h1o _ (cne hm hk0 (by simp))).trans hm
  have hs1 := (h1o _ (cne hs1 hk0 (by simp))).trans hs1
  have hs2 := (h1o _ (cne hs2 hk0 (by simp))).trans hs2
  have hs3 := (h1o _ (cne hs3 hk0 (by simp))).trans hs3
  have hs4 := (h1o _ (cne hs4 hk0 (by simp))).trans hs4
  have hk1 := (h1o _ (cne hk1 hk0 (by simp))).trans hk1
  have hk2 := (h1o _ (cne hk2 hk0 (by simp))).trans hk2
  have hk3 := (h1o _ (cne hk3 hk0 (by simp))).trans hk3
  have hk4 := (h1o _ (cne hk4 hk0 (by simp))).trans hk4
  have hk0 := h1a
  have fm := fm.step (by simp) h1o
  refine ev_iconst (v := iZ 0) d_Mo_keep_18 rfl ?_
  refine ev_istore_n (L' := [(0, .ref m), (1, .int (iZ ((c % 10 : Nat) : Int))), (2, .int (iZ 0))]) d_Mo_keep_19 rfl (by decide) rfl ?_
  refine lp_Mo_keep1 G _ h (c % 10) (by omega) σ m s1 s2 s3 s4 k0 k1 k2 k3 k4 n c bk S1 S2 S3 S4 _ K1 K2 K3 K4 f4 f5 f6 f7 f8 f9 f10 f11 f12 f13 f14 f15 n_s n_k ?_ 16 0 h1 (by omega) hm hs1 hs2 hs3 hs4 hk0 (by rw [cpy_z]; exact hk1) (by rw [cpy_z]; exact hk2) (by rw [cpy_z]; exact hk3) hk4 fm
  intro h5 hm hs1 hs2 hs3 hs4 hk0 hk1 hk2 hk3 hk4 fm
  refine ev_iconst (v := iZ 0) d_Mo_keep_83 rfl ?_
  refine ev_istore_n (L' := [(0, .ref m), (1, .int (iZ ((c % 10 : Nat) : Int))), (2, .int (iZ 0))]) d_Mo_keep_84 rfl (by decide) rfl ?_
  refine lp_Mo_keep2 G _ h (c % 10) (by omega) σ m s1 s2 s3 s4 k0 k1 k2 k3 k4 n c bk S1 S2 S3 S4 _ _ _ _ K4 f4 f5 f6 f7 f8 f9 f10 f11 f12 f13 f14 f15 n_s n_k ?_ 1024 0 h5 (by omega) hm hs1 hs2 hs3 hs4 hk0 hk1 hk2 hk3 (by rw [cpy_z]; exact hk4) fm
  intro h6 hm hs1 hs2 hs3 hs4 hk0 hk1 hk2 hk3 hk4 fm
  refine ev_aload_n d_Mo_keep_116 rfl rfl ?_
  refine ev_dup d_Mo_keep_117 rfl ?_
  refine ev_getF d_Mo_keep_118 fl_Mo_101 hm (by decide) f9 ?_
  refine ev_iconst (v := iZ 1) d_Mo_keep_121 rfl ?_
  refine ez_iadd d_Mo_keep_122 ?_
  refine ev_putF2 d_Mo_keep_123 fw_Mo_101 (Or.inr (fun _ _ _ q => by cases q; rfl)) hm (by decide) rfl rfl (fun h2 σ3 h2a σ3j σ3o h2o => ?_)
  have f4 := (σ3o 4 (by decide)).trans f4
  have f5 := (σ3o 5 (by decide)).trans f5
  have f6 := (σ3o 6 (by decide)).trans f6
  have f7 := (σ3o 7 (by decide)).trans f7
  have f8 := (σ3o 8 (by decide)).trans f8
  have f10 := (σ3o 10 (by decide)).trans f10
  have f11 := (σ3o 11 (by decide)).trans f11
  have f12 := (σ3o 12 (by decide)).trans f12
  have f13 := (σ3o 13 (by decide)).trans f13
  have f14 := (σ3o 14 (by decide)).trans f14
  have f15 := (σ3o 15 (by decide)).trans f15
  have f9 := σ3j
  have fs := fs.step (by simp) σ3o
  have hs1 := (h2o _ (cne hs1 hm (by simp))).trans hs1
  have hs2 := (h2o _ (cne hs2 hm (by simp))).trans hs2
  have hs3 := (h2o _ (cne hs3 hm (by simp))).trans hs3
  have hs4 := (h2o _ (cne hs4 hm (by simp))).trans hs4
  have hk0 := (h2o _ (cne hk0 hm (by simp))).trans hk0
  have hk1 := (h2o _ (cne hk1 hm (by simp))).trans hk1
  have hk2 := (h2o _ (cne hk2 hm (by simp))).trans hk2
  have hk3 := (h2o _ (cne hk3 hm (by simp))).trans hk3
  have hk4 := (h2o _ (cne hk4 hm (by simp))).trans hk4
  have hm := h2a
  have fm := fm.step (by simp) h2o
  refine ev_aload_n d_Mo_keep_126 rfl rfl ?_
  refine ev_aload_n d_Mo_keep_127 rfl rfl ?_
  refine ev_getF d_Mo_keep_128 fl_Mo_104 hm (by decide) f10 ?_
  refine ev_bipush (v := iZ 10) d_Mo_keep_131 rfl ?_
  refine ez_icmp_ne (tgt := 141) (by omega) (by decide) d_Mo_keep_133 rfl (fun c133 => ?_) (fun c133 => ?_)
  · refine ev_aload_n d_Mo_keep_141 rfl rfl ?_
    refine ev_getF d_Mo_keep_142 fl_Mo_104 hm (by decide) f10 ?_
    refine ev_iconst (v := iZ 1) d_Mo_keep_145 rfl ?_
    refine ez_iadd d_Mo_keep_146 ?_
    refine ev_putF2 d_Mo_keep_147 fw_Mo_104 (Or.inr (fun _ _ _ q => by cases q; rfl)) hm (by decide) rfl rfl (fun h4 σ5 h4a σ5j σ5o h4o => ?_)
    have f4 := (σ5o 4 (by decide)).trans f4
    have f5 := (σ5o 5 (by decide)).trans f5
    have f6 := (σ5o 6 (by decide)).trans f6
    have f7 := (σ5o 7 (by decide)).trans f7
    have f8 := (σ5o 8 (by decide)).trans f8
    have f9 := (σ5o 9 (by decide)).trans f9
    have f11 := (σ5o 11 (by decide)).trans f11
    have f12 := (σ5o 12 (by decide)).trans f12
    have f13 := (σ5o 13 (by decide)).trans f13
    have f14 := (σ5o 14 (by decide)).trans f14
    have f15 := (σ5o 15 (by decide)).trans f15
    have f10 := σ5j
    have fs := fs.step (by simp) σ5o
    have hs1 := (h4o _ (cne hs1 hm (by simp))).trans hs1
    have hs2 := (h4o _ (cne hs2 hm (by simp))).trans hs2
    have hs3 := (h4o _ (cne hs3 hm (by simp))).trans hs3
    have hs4 := (h4o _ (cne hs4 hm (by simp))).trans hs4
    have hk0 := (h4o _ (cne hk0 hm (by simp))).trans hk0
    have hk1 := (h4o _ (cne hk1 hm (by simp))).trans hk1
    have hk2 := (h4o _ (cne hk2 hm (by simp))).trans hk2
    have hk3 := (h4o _ (cne hk3 hm (by simp))).trans hk3
    have hk4 := (h4o _ (cne hk4 hm (by simp))).trans hk4
    have hm := h4a
    have fm := fm.step (by simp) h4o
    exact ev_return d_Mo_keep_150 rfl (by decide) (by decide) (⟨rfl, ⟨σ5, hm, f9, by rw [f10]; congr 2; omega, fs⟩, hk0, hk1, hk2, hk3, hk4, fm⟩)
  · refine ev_bipush (v := iZ 10) d_Mo_keep_136 rfl ?_
    refine ev_goto (tgt := 147) d_Mo_keep_138 rfl ?_
    refine ev_putF2 d_Mo_keep_147 fw_Mo_104 (Or.inr (fun _ _ _ q => by cases q; rfl)) hm (by decide) rfl rfl (fun h6 σ7 h6a σ7j σ7o h6o => ?_)
    have f4 := (σ7o 4 (by decide)).trans f4
    have f5 := (σ7o 5 (by decide)).trans f5
    have f6 := (σ7o 6 (by decide)).trans f6
    have f7 := (σ7o 7 (by decide)).trans f7
    have f8 := (σ7o 8 (by decide)).trans f8
    have f9 := (σ7o 9 (by decide)).trans f9
    have f11 := (σ7o 11 (by decide)).trans f11
    have f12 := (σ7o 12 (by decide)).trans f12
    have f13 := (σ7o 13 (by decide)).trans f13
    have f14 := (σ7o 14 (by decide)).trans f14
    have f15 := (σ7o 15 (by decide)).trans f15
    have f10 := σ7j
    have fs := fs.step (by simp) σ7o
    have hs1 := (h6o _ (cne hs1 hm (by simp))).trans hs1
    have hs2 := (h6o _ (cne hs2 hm (by simp))).trans hs2
    have hs3 := (h6o _ (cne hs3 hm (by simp))).trans hs3
    have hs4 := (h6o _ (cne hs4 hm (by simp))).trans hs4
    have hk0 := (h6o _ (cne hk0 hm (by simp))).trans hk0
    have hk1 := (h6o _ (cne hk1 hm (by simp))).trans hk1
    have hk2 := (h6o _ (cne hk2 hm (by simp))).trans hk2
    have hk3 := (h6o _ (cne hk3 hm (by simp))).trans hk3
    have hk4 := (h6o _ (cne hk4 hm (by simp))).trans hk4
    have hm := h6a
    have fm := fm.step (by simp) h6o
    exact ev_return d_Mo_keep_150 rfl (by decide) (by decide) (⟨rfl, ⟨σ7, hm, f9, by rw [f10]; congr 2; omega, fs⟩, hk0, hk1, hk2, hk3, hk4, fm⟩)
