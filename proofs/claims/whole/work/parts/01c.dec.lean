theorem dX7_init_0 : decode cX7_init 0 = .ok (.aload_n 0, 1) := by decide +kernel
theorem dX7_init_1 : decode cX7_init 1 = .ok (.invokespecial 3, 3) := by decide +kernel
theorem dX7_init_4 : decode cX7_init 4 = .ok (.aload_n 0, 1) := by decide +kernel
theorem dX7_init_5 : decode cX7_init 5 = .ok (.new 9, 3) := by decide +kernel
theorem dX7_init_8 : decode cX7_init 8 = .ok (.dup, 1) := by decide +kernel
theorem dX7_init_9 : decode cX7_init 9 = .ok (.invokespecial 11, 3) := by decide +kernel
theorem dX7_init_12 : decode cX7_init 12 = .ok (.putfield 12, 3) := by decide +kernel
theorem dX7_init_15 : decode cX7_init 15 = .ok (.aload_n 0, 1) := by decide +kernel
theorem dX7_init_16 : decode cX7_init 16 = .ok (.new 18, 3) := by decide +kernel
theorem dX7_init_19 : decode cX7_init 19 = .ok (.dup, 1) := by decide +kernel
theorem dX7_init_20 : decode cX7_init 20 = .ok (.aload_n 0, 1) := by decide +kernel
theorem dX7_init_21 : decode cX7_init 21 = .ok (.getfield 12, 3) := by decide +kernel
theorem dX7_init_24 : decode cX7_init 24 = .ok (.invokespecial 20, 3) := by decide +kernel
theorem dX7_init_27 : decode cX7_init 27 = .ok (.putfield 23, 3) := by decide +kernel
theorem dX7_init_30 : decode cX7_init 30 = .ok (.aload_n 0, 1) := by decide +kernel
theorem dX7_init_31 : decode cX7_init 31 = .ok (.new 18, 3) := by decide +kernel
theorem dX7_init_34 : decode cX7_init 34 = .ok (.dup, 1) := by decide +kernel
theorem dX7_init_35 : decode cX7_init 35 = .ok (.aload_n 0, 1) := by decide +kernel
theorem dX7_init_36 : decode cX7_init 36 = .ok (.getfield 12, 3) := by decide +kernel
theorem dX7_init_39 : decode cX7_init 39 = .ok (.invokespecial 20, 3) := by decide +kernel
theorem dX7_init_42 : decode cX7_init 42 = .ok (.putfield 27, 3) := by decide +kernel
theorem dX7_init_45 : decode cX7_init 45 = .ok (.aload_n 0, 1) := by decide +kernel
theorem dX7_init_46 : decode cX7_init 46 = .ok (.new 18, 3) := by decide +kernel
theorem dX7_init_49 : decode cX7_init 49 = .ok (.dup, 1) := by decide +kernel
theorem dX7_init_50 : decode cX7_init 50 = .ok (.aload_n 0, 1) := by decide +kernel
theorem dX7_init_51 : decode cX7_init 51 = .ok (.getfield 12, 3) := by decide +kernel
theorem dX7_init_54 : decode cX7_init 54 = .ok (.invokespecial 20, 3) := by decide +kernel
theorem dX7_init_57 : decode cX7_init 57 = .ok (.putfield 30, 3) := by decide +kernel
theorem dX7_init_60 : decode cX7_init 60 = .ok (.aload_n 0, 1) := by decide +kernel
theorem dX7_init_61 : decode cX7_init 61 = .ok (.bipush 6, 2) := by decide +kernel
theorem dX7_init_63 : decode cX7_init 63 = .ok (.anewarray 9, 3) := by decide +kernel
theorem dX7_init_66 : decode cX7_init 66 = .ok (.putfield 33, 3) := by decide +kernel
theorem dX7_init_69 : decode cX7_init 69 = .ok (.aload_n 0, 1) := by decide +kernel
theorem dX7_init_70 : decode cX7_init 70 = .ok (.new 37, 3) := by decide +kernel
theorem dX7_init_73 : decode cX7_init 73 = .ok (.dup, 1) := by decide +kernel
theorem dX7_init_74 : decode cX7_init 74 = .ok (.invokespecial 39, 3) := by decide +kernel
theorem dX7_init_77 : decode cX7_init 77 = .ok (.putfield 40, 3) := by decide +kernel
theorem dX7_init_80 : decode cX7_init 80 = .ok (.aload_n 0, 1) := by decide +kernel
theorem dX7_init_81 : decode cX7_init 81 = .ok (.new 44, 3) := by decide +kernel
theorem dX7_init_84 : decode cX7_init 84 = .ok (.dup, 1) := by decide +kernel
theorem dX7_init_85 : decode cX7_init 85 = .ok (.invokespecial 46, 3) := by decide +kernel
theorem dX7_init_88 : decode cX7_init 88 = .ok (.putfield 47, 3) := by decide +kernel
theorem dX7_init_91 : decode cX7_init 91 = .ok (.aload_n 0, 1) := by decide +kernel
theorem dX7_init_92 : decode cX7_init 92 = .ok (.new 51, 3) := by decide +kernel
theorem dX7_init_95 : decode cX7_init 95 = .ok (.dup, 1) := by decide +kernel
theorem dX7_init_96 : decode cX7_init 96 = .ok (.invokespecial 53, 3) := by decide +kernel
theorem dX7_init_99 : decode cX7_init 99 = .ok (.putfield 54, 3) := by decide +kernel
theorem dX7_init_102 : decode cX7_init 102 = .ok (.iconst 0, 1) := by decide +kernel
theorem dX7_init_103 : decode cX7_init 103 = .ok (.istore_n 1, 1) := by decide +kernel
theorem dX7_init_104 : decode cX7_init 104 = .ok (.iload_n 1, 1) := by decide +kernel
theorem dX7_init_105 : decode cX7_init 105 = .ok (.bipush 6, 2) := by decide +kernel
theorem dX7_init_107 : decode cX7_init 107 = .ok (.if_icmp .ge 22, 3) := by decide +kernel
theorem dX7_init_110 : decode cX7_init 110 = .ok (.aload_n 0, 1) := by decide +kernel
theorem dX7_init_111 : decode cX7_init 111 = .ok (.getfield 33, 3) := by decide +kernel
theorem dX7_init_114 : decode cX7_init 114 = .ok (.iload_n 1, 1) := by decide +kernel
theorem dX7_init_115 : decode cX7_init 115 = .ok (.new 9, 3) := by decide +kernel
theorem dX7_init_118 : decode cX7_init 118 = .ok (.dup, 1) := by decide +kernel
theorem dX7_init_119 : decode cX7_init 119 = .ok (.invokespecial 11, 3) := by decide +kernel
theorem dX7_init_122 : decode cX7_init 122 = .ok (.aastore, 1) := by decide +kernel
theorem dX7_init_123 : decode cX7_init 123 = .ok (.iinc 1 1, 3) := by decide +kernel
theorem dX7_init_126 : decode cX7_init 126 = .ok (.goto (-22), 3) := by decide +kernel
theorem dX7_init_129 : decode cX7_init 129 = .ok (.return_, 1) := by decide +kernel
theorem dX7_person_0 : decode cX7_person 0 = .ok (.iload_n 1, 1) := by decide +kernel
theorem dX7_person_1 : decode cX7_person 1 = .ok (.iconst 0, 1) := by decide +kernel
theorem dX7_person_2 : decode cX7_person 2 = .ok (.bipush 6, 2) := by decide +kernel
theorem dX7_person_4 : decode cX7_person 4 = .ok (.invokestatic 58, 3) := by decide +kernel
theorem dX7_person_7 : decode cX7_person 7 = .ok (.ifCond .ne 5, 3) := by decide +kernel
theorem dX7_person_10 : decode cX7_person 10 = .ok (.iconst (-1), 1) := by decide +kernel
theorem dX7_person_11 : decode cX7_person 11 = .ok (.ireturn, 1) := by decide +kernel
theorem dX7_person_12 : decode cX7_person 12 = .ok (.iload_n 2, 1) := by decide +kernel
theorem dX7_person_13 : decode cX7_person 13 = .ok (.iconst 0, 1) := by decide +kernel
theorem dX7_person_14 : decode cX7_person 14 = .ok (.bipush 9, 2) := by decide +kernel
theorem dX7_person_16 : decode cX7_person 16 = .ok (.invokestatic 58, 3) := by decide +kernel
theorem dX7_person_19 : decode cX7_person 19 = .ok (.ifCond .eq 14, 3) := by decide +kernel
theorem dX7_person_22 : decode cX7_person 22 = .ok (.iload_n 3, 1) := by decide +kernel
theorem dX7_person_23 : decode cX7_person 23 = .ok (.iconst 0, 1) := by decide +kernel
theorem dX7_person_24 : decode cX7_person 24 = .ok (.sipush 999, 3) := by decide +kernel
theorem dX7_person_27 : decode cX7_person 27 = .ok (.invokestatic 58, 3) := by decide +kernel
theorem dX7_person_30 : decode cX7_person 30 = .ok (.ifCond .ne 6, 3) := by decide +kernel
theorem dX7_person_33 : decode cX7_person 33 = .ok (.bipush (-2), 2) := by decide +kernel
theorem dX7_person_35 : decode cX7_person 35 = .ok (.ireturn, 1) := by decide +kernel
theorem dX7_person_36 : decode cX7_person 36 = .ok (.aload_n 0, 1) := by decide +kernel
theorem dX7_person_37 : decode cX7_person 37 = .ok (.getfield 23, 3) := by decide +kernel
theorem dX7_person_40 : decode cX7_person 40 = .ok (.getfield 62, 3) := by decide +kernel
theorem dX7_person_43 : decode cX7_person 43 = .ok (.getfield 66, 3) := by decide +kernel
theorem dX7_person_46 : decode cX7_person 46 = .ok (.bipush 6, 2) := by decide +kernel
theorem dX7_person_48 : decode cX7_person 48 = .ok (.if_icmp .ge 19, 3) := by decide +kernel
theorem dX7_person_51 : decode cX7_person 51 = .ok (.aload_n 0, 1) := by decide +kernel
theorem dX7_person_52 : decode cX7_person 52 = .ok (.getfield 23, 3) := by decide +kernel
theorem dX7_person_55 : decode cX7_person 55 = .ok (.getfield 62, 3) := by decide +kernel
theorem dX7_person_58 : decode cX7_person 58 = .ok (.iload_n 1, 1) := by decide +kernel
theorem dX7_person_59 : decode cX7_person 59 = .ok (.iload_n 2, 1) := by decide +kernel
theorem dX7_person_60 : decode cX7_person 60 = .ok (.iload_n 3, 1) := by decide +kernel
theorem dX7_person_61 : decode cX7_person 61 = .ok (.invokevirtual 72, 3) := by decide +kernel
theorem dX7_person_64 : decode cX7_person 64 = .ok (.goto 5, 3) := by decide +kernel
theorem dX7_person_67 : decode cX7_person 67 = .ok (.bipush (-4), 2) := by decide +kernel
theorem dX7_person_69 : decode cX7_person 69 = .ok (.ireturn, 1) := by decide +kernel
theorem dX7_of_0 : decode cX7_of 0 = .ok (.aload_n 0, 1) := by decide +kernel
theorem dX7_of_1 : decode cX7_of 1 = .ok (.iload_n 1, 1) := by decide +kernel
theorem dX7_of_2 : decode cX7_of 2 = .ok (.invokevirtual 76, 3) := by decide +kernel
theorem dX7_of_5 : decode cX7_of 5 = .ok (.ifCond .ne 7, 3) := by decide +kernel
theorem dX7_of_8 : decode cX7_of 8 = .ok (.sipush (-10001), 3) := by decide +kernel
theorem dX7_of_11 : decode cX7_of 11 = .ok (.ireturn, 1) := by decide +kernel
theorem dX7_of_12 : decode cX7_of 12 = .ok (.aload_n 0, 1) := by decide +kernel
theorem dX7_of_13 : decode cX7_of 13 = .ok (.getfield 23, 3) := by decide +kernel
theorem dX7_of_16 : decode cX7_of 16 = .ok (.getfield 62, 3) := by decide +kernel
theorem dX7_of_19 : decode cX7_of 19 = .ok (.astore_n 3, 1) := by decide +kernel
theorem dX7_of_20 : decode cX7_of 20 = .ok (.iload_n 2, 1) := by decide +kernel
theorem dX7_of_21 : decode cX7_of 21 = .ok (.tableswitch 135 0 7 #[47, 54, 61, 68, 75, 89, 107, 119], 47) := by decide +kernel
theorem dX7_of_68 : decode cX7_of 68 = .ok (.aload_n 3, 1) := by decide +kernel
theorem dX7_of_69 : decode cX7_of 69 = .ok (.getfield 80, 3) := by decide +kernel
theorem dX7_of_72 : decode cX7_of 72 = .ok (.iload_n 1, 1) := by decide +kernel
theorem dX7_of_73 : decode cX7_of 73 = .ok (.iaload, 1) := by decide +kernel
theorem dX7_of_74 : decode cX7_of 74 = .ok (.ireturn, 1) := by decide +kernel
theorem dX7_of_75 : decode cX7_of 75 = .ok (.aload_n 3, 1) := by decide +kernel
theorem dX7_of_76 : decode cX7_of 76 = .ok (.getfield 84, 3) := by decide +kernel
theorem dX7_of_79 : decode cX7_of 79 = .ok (.iload_n 1, 1) := by decide +kernel
theorem dX7_of_80 : decode cX7_of 80 = .ok (.iaload, 1) := by decide +kernel
theorem dX7_of_81 : decode cX7_of 81 = .ok (.ireturn, 1) := by decide +kernel
theorem dX7_of_82 : decode cX7_of 82 = .ok (.aload_n 3, 1) := by decide +kernel
theorem dX7_of_83 : decode cX7_of 83 = .ok (.getfield 87, 3) := by decide +kernel
theorem dX7_of_86 : decode cX7_of 86 = .ok (.iload_n 1, 1) := by decide +kernel
theorem dX7_of_87 : decode cX7_of 87 = .ok (.iaload, 1) := by decide +kernel
theorem dX7_of_88 : decode cX7_of 88 = .ok (.ireturn, 1) := by decide +kernel
theorem dX7_of_89 : decode cX7_of 89 = .ok (.aload_n 3, 1) := by decide +kernel
theorem dX7_of_90 : decode cX7_of 90 = .ok (.getfield 90, 3) := by decide +kernel
theorem dX7_of_93 : decode cX7_of 93 = .ok (.iload_n 1, 1) := by decide +kernel
theorem dX7_of_94 : decode cX7_of 94 = .ok (.iaload, 1) := by decide +kernel
theorem dX7_of_95 : decode cX7_of 95 = .ok (.ireturn, 1) := by decide +kernel
theorem dX7_of_96 : decode cX7_of 96 = .ok (.aload_n 3, 1) := by decide +kernel
theorem dX7_of_97 : decode cX7_of 97 = .ok (.iload_n 1, 1) := by decide +kernel
theorem dX7_of_98 : decode cX7_of 98 = .ok (.invokevirtual 93, 3) := by decide +kernel
theorem dX7_of_101 : decode cX7_of 101 = .ok (.ifCond .eq 7, 3) := by decide +kernel
theorem dX7_of_104 : decode cX7_of 104 = .ok (.iconst 1, 1) := by decide +kernel
theorem dX7_of_105 : decode cX7_of 105 = .ok (.goto 4, 3) := by decide +kernel
theorem dX7_of_108 : decode cX7_of 108 = .ok (.iconst 0, 1) := by decide +kernel
theorem dX7_of_109 : decode cX7_of 109 = .ok (.ireturn, 1) := by decide +kernel
theorem dX7_of_110 : decode cX7_of 110 = .ok (.aload_n 0, 1) := by decide +kernel
theorem dX7_of_111 : decode cX7_of 111 = .ok (.getfield 23, 3) := by decide +kernel
theorem dX7_of_114 : decode cX7_of 114 = .ok (.invokevirtual 96, 3) := by decide +kernel
theorem dX7_of_117 : decode cX7_of 117 = .ok (.pop, 1) := by decide +kernel
theorem dX7_of_118 : decode cX7_of 118 = .ok (.aload_n 0, 1) := by decide +kernel
theorem dX7_of_119 : decode cX7_of 119 = .ok (.getfield 23, 3) := by decide +kernel
theorem dX7_of_122 : decode cX7_of 122 = .ok (.getfield 100, 3) := by decide +kernel
theorem dX7_of_125 : decode cX7_of 125 = .ok (.iload_n 1, 1) := by decide +kernel
theorem dX7_of_126 : decode cX7_of 126 = .ok (.iaload, 1) := by decide +kernel
theorem dX7_of_127 : decode cX7_of 127 = .ok (.ireturn, 1) := by decide +kernel
theorem dX7_of_128 : decode cX7_of 128 = .ok (.aload_n 0, 1) := by decide +kernel
theorem dX7_of_129 : decode cX7_of 129 = .ok (.getfield 23, 3) := by decide +kernel
theorem dX7_of_132 : decode cX7_of 132 = .ok (.invokevirtual 96, 3) := by decide +kernel
theorem dX7_of_135 : decode cX7_of 135 = .ok (.iload_n 1, 1) := by decide +kernel
theorem dX7_of_136 : decode cX7_of 136 = .ok (.ishr, 1) := by decide +kernel
theorem dX7_of_137 : decode cX7_of 137 = .ok (.iconst 1, 1) := by decide +kernel
theorem dX7_of_138 : decode cX7_of 138 = .ok (.iand, 1) := by decide +kernel
theorem dX7_of_139 : decode cX7_of 139 = .ok (.ireturn, 1) := by decide +kernel
theorem dX7_of_140 : decode cX7_of 140 = .ok (.aload_n 0, 1) := by decide +kernel
theorem dX7_of_141 : decode cX7_of 141 = .ok (.getfield 23, 3) := by decide +kernel
theorem dX7_of_144 : decode cX7_of 144 = .ok (.iload_n 1, 1) := by decide +kernel
theorem dX7_of_145 : decode cX7_of 145 = .ok (.aload_n 0, 1) := by decide +kernel
theorem dX7_of_146 : decode cX7_of 146 = .ok (.getfield 23, 3) := by decide +kernel
theorem dX7_of_149 : decode cX7_of 149 = .ok (.invokevirtual 96, 3) := by decide +kernel
theorem dX7_of_152 : decode cX7_of 152 = .ok (.invokevirtual 103, 3) := by decide +kernel
theorem dX7_of_155 : decode cX7_of 155 = .ok (.ireturn, 1) := by decide +kernel
theorem dX7_of_156 : decode cX7_of 156 = .ok (.iload_n 2, 1) := by decide +kernel
theorem dX7_of_157 : decode cX7_of 157 = .ok (.bipush 10, 2) := by decide +kernel
theorem dX7_of_159 : decode cX7_of 159 = .ok (.bipush 109, 2) := by decide +kernel
theorem dX7_of_161 : decode cX7_of 161 = .ok (.invokestatic 58, 3) := by decide +kernel
theorem dX7_of_164 : decode cX7_of 164 = .ok (.ifCond .eq 15, 3) := by decide +kernel
theorem dX7_of_167 : decode cX7_of 167 = .ok (.aload_n 3, 1) := by decide +kernel
theorem dX7_of_168 : decode cX7_of 168 = .ok (.iload_n 1, 1) := by decide +kernel
theorem dX7_of_169 : decode cX7_of 169 = .ok (.iload_n 2, 1) := by decide +kernel
theorem dX7_of_170 : decode cX7_of 170 = .ok (.bipush 10, 2) := by decide +kernel
theorem dX7_of_172 : decode cX7_of 172 = .ok (.isub, 1) := by decide +kernel
theorem dX7_of_173 : decode cX7_of 173 = .ok (.invokevirtual 107, 3) := by decide +kernel
theorem dX7_of_176 : decode cX7_of 176 = .ok (.goto 6, 3) := by decide +kernel
theorem dX7_of_179 : decode cX7_of 179 = .ok (.sipush (-10001), 3) := by decide +kernel
theorem dX7_of_182 : decode cX7_of 182 = .ok (.ireturn, 1) := by decide +kernel
theorem dX7_thanks_0 : decode cX7_thanks 0 = .ok (.aload_n 0, 1) := by decide +kernel
theorem dX7_thanks_1 : decode cX7_thanks 1 = .ok (.iload_n 1, 1) := by decide +kernel
theorem dX7_thanks_2 : decode cX7_thanks 2 = .ok (.invokevirtual 76, 3) := by decide +kernel
theorem dX7_thanks_5 : decode cX7_thanks 5 = .ok (.ifCond .ne 5, 3) := by decide +kernel
theorem dX7_thanks_8 : decode cX7_thanks 8 = .ok (.iconst (-1), 1) := by decide +kernel
theorem dX7_thanks_9 : decode cX7_thanks 9 = .ok (.ireturn, 1) := by decide +kernel
theorem dX7_thanks_10 : decode cX7_thanks 10 = .ok (.iload_n 2, 1) := by decide +kernel
theorem dX7_thanks_11 : decode cX7_thanks 11 = .ok (.iconst 0, 1) := by decide +kernel
theorem dX7_thanks_12 : decode cX7_thanks 12 = .ok (.sipush 999, 3) := by decide +kernel
theorem dX7_thanks_15 : decode cX7_thanks 15 = .ok (.invokestatic 58, 3) := by decide +kernel
theorem dX7_thanks_18 : decode cX7_thanks 18 = .ok (.ifCond .ne 6, 3) := by decide +kernel
theorem dX7_thanks_21 : decode cX7_thanks 21 = .ok (.bipush (-2), 2) := by decide +kernel
theorem dX7_thanks_23 : decode cX7_thanks 23 = .ok (.ireturn, 1) := by decide +kernel
theorem dX7_thanks_24 : decode cX7_thanks 24 = .ok (.aload_n 0, 1) := by decide +kernel
theorem dX7_thanks_25 : decode cX7_thanks 25 = .ok (.getfield 23, 3) := by decide +kernel
theorem dX7_thanks_28 : decode cX7_thanks 28 = .ok (.getfield 62, 3) := by decide +kernel
theorem dX7_thanks_31 : decode cX7_thanks 31 = .ok (.getfield 87, 3) := by decide +kernel
theorem dX7_thanks_34 : decode cX7_thanks 34 = .ok (.iload_n 1, 1) := by decide +kernel
theorem dX7_thanks_35 : decode cX7_thanks 35 = .ok (.iaload, 1) := by decide +kernel
theorem dX7_thanks_36 : decode cX7_thanks 36 = .ok (.istore_n 3, 1) := by decide +kernel
theorem dX7_thanks_37 : decode cX7_thanks 37 = .ok (.aload_n 0, 1) := by decide +kernel
theorem dX7_thanks_38 : decode cX7_thanks 38 = .ok (.getfield 23, 3) := by decide +kernel
theorem dX7_thanks_41 : decode cX7_thanks 41 = .ok (.getfield 62, 3) := by decide +kernel
theorem dX7_thanks_44 : decode cX7_thanks 44 = .ok (.getfield 87, 3) := by decide +kernel
theorem dX7_thanks_47 : decode cX7_thanks 47 = .ok (.iload_n 1, 1) := by decide +kernel
theorem dX7_thanks_48 : decode cX7_thanks 48 = .ok (.iload_n 2, 1) := by decide +kernel
theorem dX7_thanks_49 : decode cX7_thanks 49 = .ok (.iastore, 1) := by decide +kernel
theorem dX7_thanks_50 : decode cX7_thanks 50 = .ok (.iload_n 3, 1) := by decide +kernel
theorem dX7_thanks_51 : decode cX7_thanks 51 = .ok (.ireturn, 1) := by decide +kernel
theorem dX7_kill_0 : decode cX7_kill 0 = .ok (.aload_n 0, 1) := by decide +kernel
theorem dX7_kill_1 : decode cX7_kill 1 = .ok (.iload_n 1, 1) := by decide +kernel
theorem dX7_kill_2 : decode cX7_kill 2 = .ok (.invokevirtual 76, 3) := by decide +kernel
theorem dX7_kill_5 : decode cX7_kill 5 = .ok (.ifCond .ne 5, 3) := by decide +kernel
theorem dX7_kill_8 : decode cX7_kill 8 = .ok (.iconst (-1), 1) := by decide +kernel
theorem dX7_kill_9 : decode cX7_kill 9 = .ok (.ireturn, 1) := by decide +kernel
theorem dX7_kill_10 : decode cX7_kill 10 = .ok (.aload_n 0, 1) := by decide +kernel
theorem dX7_kill_11 : decode cX7_kill 11 = .ok (.getfield 23, 3) := by decide +kernel
theorem dX7_kill_14 : decode cX7_kill 14 = .ok (.getfield 62, 3) := by decide +kernel
theorem dX7_kill_17 : decode cX7_kill 17 = .ok (.iload_n 1, 1) := by decide +kernel
theorem dX7_kill_18 : decode cX7_kill 18 = .ok (.invokevirtual 93, 3) := by decide +kernel
theorem dX7_kill_21 : decode cX7_kill 21 = .ok (.ifCond .eq 7, 3) := by decide +kernel
theorem dX7_kill_24 : decode cX7_kill 24 = .ok (.iconst 1, 1) := by decide +kernel
theorem dX7_kill_25 : decode cX7_kill 25 = .ok (.goto 4, 3) := by decide +kernel
theorem dX7_kill_28 : decode cX7_kill 28 = .ok (.iconst 0, 1) := by decide +kernel
theorem dX7_kill_29 : decode cX7_kill 29 = .ok (.istore_n 3, 1) := by decide +kernel
theorem dX7_kill_30 : decode cX7_kill 30 = .ok (.aload_n 0, 1) := by decide +kernel
theorem dX7_kill_31 : decode cX7_kill 31 = .ok (.getfield 23, 3) := by decide +kernel
theorem dX7_kill_34 : decode cX7_kill 34 = .ok (.getfield 62, 3) := by decide +kernel
theorem dX7_kill_37 : decode cX7_kill 37 = .ok (.iload_n 1, 1) := by decide +kernel
theorem dX7_kill_38 : decode cX7_kill 38 = .ok (.iload_n 2, 1) := by decide +kernel
theorem dX7_kill_39 : decode cX7_kill 39 = .ok (.invokevirtual 110, 3) := by decide +kernel
theorem dX7_kill_42 : decode cX7_kill 42 = .ok (.iload_n 3, 1) := by decide +kernel
theorem dX7_kill_43 : decode cX7_kill 43 = .ok (.ireturn, 1) := by decide +kernel
theorem dX7_row_0 : decode cX7_row 0 = .ok (.aload_n 0, 1) := by decide +kernel
theorem dX7_row_1 : decode cX7_row 1 = .ok (.iload_n 1, 1) := by decide +kernel
theorem dX7_row_2 : decode cX7_row 2 = .ok (.invokevirtual 76, 3) := by decide +kernel
theorem dX7_row_5 : decode cX7_row 5 = .ok (.ifCond .eq 12, 3) := by decide +kernel
theorem dX7_row_8 : decode cX7_row 8 = .ok (.iload_n 2, 1) := by decide +kernel
theorem dX7_row_9 : decode cX7_row 9 = .ok (.iconst 0, 1) := by decide +kernel
theorem dX7_row_10 : decode cX7_row 10 = .ok (.iconst 3, 1) := by decide +kernel
theorem dX7_row_11 : decode cX7_row 11 = .ok (.invokestatic 58, 3) := by decide +kernel
theorem dX7_row_14 : decode cX7_row 14 = .ok (.ifCond .ne 5, 3) := by decide +kernel
theorem dX7_row_17 : decode cX7_row 17 = .ok (.iconst (-1), 1) := by decide +kernel
theorem dX7_row_18 : decode cX7_row 18 = .ok (.ireturn, 1) := by decide +kernel
theorem dX7_row_19 : decode cX7_row 19 = .ok (.iload_n 3, 1) := by decide +kernel
theorem dX7_row_20 : decode cX7_row 20 = .ok (.iconst 0, 1) := by decide +kernel
theorem dX7_row_21 : decode cX7_row 21 = .ok (.bipush 9, 2) := by decide +kernel
theorem dX7_row_23 : decode cX7_row 23 = .ok (.invokestatic 58, 3) := by decide +kernel
theorem dX7_row_26 : decode cX7_row 26 = .ok (.ifCond .ne 6, 3) := by decide +kernel
theorem dX7_row_29 : decode cX7_row 29 = .ok (.bipush (-2), 2) := by decide +kernel
theorem dX7_row_31 : decode cX7_row 31 = .ok (.ireturn, 1) := by decide +kernel
theorem dX7_row_32 : decode cX7_row 32 = .ok (.aload_n 0, 1) := by decide +kernel
theorem dX7_row_33 : decode cX7_row 33 = .ok (.getfield 23, 3) := by decide +kernel
theorem dX7_row_36 : decode cX7_row 36 = .ok (.getfield 62, 3) := by decide +kernel
theorem dX7_row_39 : decode cX7_row 39 = .ok (.getfield 80, 3) := by decide +kernel
theorem dX7_row_42 : decode cX7_row 42 = .ok (.iload_n 1, 1) := by decide +kernel
theorem dX7_row_43 : decode cX7_row 43 = .ok (.iaload, 1) := by decide +kernel
theorem dX7_row_44 : decode cX7_row 44 = .ok (.bipush 6, 2) := by decide +kernel
theorem dX7_row_46 : decode cX7_row 46 = .ok (.if_icmp .eq 6, 3) := by decide +kernel
theorem dX7_row_49 : decode cX7_row 49 = .ok (.bipush (-3), 2) := by decide +kernel
theorem dX7_row_51 : decode cX7_row 51 = .ok (.ireturn, 1) := by decide +kernel
theorem dX7_row_52 : decode cX7_row 52 = .ok (.iload_n 1, 1) := by decide +kernel
theorem dX7_row_53 : decode cX7_row 53 = .ok (.iconst 4, 1) := by decide +kernel
theorem dX7_row_54 : decode cX7_row 54 = .ok (.imul, 1) := by decide +kernel
theorem dX7_row_55 : decode cX7_row 55 = .ok (.iload_n 2, 1) := by decide +kernel
theorem dX7_row_56 : decode cX7_row 56 = .ok (.iadd, 1) := by decide +kernel
theorem dX7_row_57 : decode cX7_row 57 = .ok (.istore 4, 2) := by decide +kernel
theorem dX7_row_59 : decode cX7_row 59 = .ok (.aload_n 0, 1) := by decide +kernel
theorem dX7_row_60 : decode cX7_row 60 = .ok (.getfield 23, 3) := by decide +kernel
theorem dX7_row_63 : decode cX7_row 63 = .ok (.getfield 62, 3) := by decide +kernel
theorem dX7_row_66 : decode cX7_row 66 = .ok (.getfield 114, 3) := by decide +kernel
theorem dX7_row_69 : decode cX7_row 69 = .ok (.iload 4, 2) := by decide +kernel
theorem dX7_row_71 : decode cX7_row 71 = .ok (.iaload, 1) := by decide +kernel
theorem dX7_row_72 : decode cX7_row 72 = .ok (.istore 5, 2) := by decide +kernel
theorem dX7_row_74 : decode cX7_row 74 = .ok (.aload_n 0, 1) := by decide +kernel
theorem dX7_row_75 : decode cX7_row 75 = .ok (.getfield 23, 3) := by decide +kernel
theorem dX7_row_78 : decode cX7_row 78 = .ok (.getfield 62, 3) := by decide +kernel
theorem dX7_row_81 : decode cX7_row 81 = .ok (.getfield 114, 3) := by decide +kernel
theorem dX7_row_84 : decode cX7_row 84 = .ok (.iload 4, 2) := by decide +kernel
theorem dX7_row_86 : decode cX7_row 86 = .ok (.iload_n 3, 1) := by decide +kernel
theorem dX7_row_87 : decode cX7_row 87 = .ok (.iastore, 1) := by decide +kernel
theorem dX7_row_88 : decode cX7_row 88 = .ok (.iload 5, 2) := by decide +kernel
theorem dX7_row_90 : decode cX7_row 90 = .ok (.ireturn, 1) := by decide +kernel
theorem dX7_soldier_0 : decode cX7_soldier 0 = .ok (.iload_n 1, 1) := by decide +kernel
theorem dX7_soldier_1 : decode cX7_soldier 1 = .ok (.iconst 0, 1) := by decide +kernel
theorem dX7_soldier_2 : decode cX7_soldier 2 = .ok (.iconst 1, 1) := by decide +kernel
theorem dX7_soldier_3 : decode cX7_soldier 3 = .ok (.invokestatic 58, 3) := by decide +kernel
theorem dX7_soldier_6 : decode cX7_soldier 6 = .ok (.ifCond .ne 5, 3) := by decide +kernel
theorem dX7_soldier_9 : decode cX7_soldier 9 = .ok (.iconst (-1), 1) := by decide +kernel
theorem dX7_soldier_10 : decode cX7_soldier 10 = .ok (.ireturn, 1) := by decide +kernel
theorem dX7_soldier_11 : decode cX7_soldier 11 = .ok (.iload_n 2, 1) := by decide +kernel
theorem dX7_soldier_12 : decode cX7_soldier 12 = .ok (.iconst 0, 1) := by decide +kernel
theorem dX7_soldier_13 : decode cX7_soldier 13 = .ok (.iload_n 1, 1) := by decide +kernel
theorem dX7_soldier_14 : decode cX7_soldier 14 = .ok (.ifCond .ne 9, 3) := by decide +kernel
theorem dX7_soldier_17 : decode cX7_soldier 17 = .ok (.sipush 999, 3) := by decide +kernel
theorem dX7_soldier_20 : decode cX7_soldier 20 = .ok (.goto 6, 3) := by decide +kernel
theorem dX7_soldier_23 : decode cX7_soldier 23 = .ok (.sipush 999, 3) := by decide +kernel
theorem dX7_soldier_26 : decode cX7_soldier 26 = .ok (.invokestatic 58, 3) := by decide +kernel
theorem dX7_soldier_29 : decode cX7_soldier 29 = .ok (.ifCond .ne 6, 3) := by decide +kernel
theorem dX7_soldier_32 : decode cX7_soldier 32 = .ok (.bipush (-2), 2) := by decide +kernel
theorem dX7_soldier_34 : decode cX7_soldier 34 = .ok (.ireturn, 1) := by decide +kernel
theorem dX7_soldier_35 : decode cX7_soldier 35 = .ok (.iload_n 1, 1) := by decide +kernel
theorem dX7_soldier_36 : decode cX7_soldier 36 = .ok (.ifCond .ne 13, 3) := by decide +kernel
theorem dX7_soldier_39 : decode cX7_soldier 39 = .ok (.aload_n 0, 1) := by decide +kernel
theorem dX7_soldier_40 : decode cX7_soldier 40 = .ok (.getfield 23, 3) := by decide +kernel
theorem dX7_soldier_43 : decode cX7_soldier 43 = .ok (.getfield 117, 3) := by decide +kernel
theorem dX7_soldier_46 : decode cX7_soldier 46 = .ok (.goto 10, 3) := by decide +kernel
theorem dX7_soldier_49 : decode cX7_soldier 49 = .ok (.aload_n 0, 1) := by decide +kernel
theorem dX7_soldier_50 : decode cX7_soldier 50 = .ok (.getfield 23, 3) := by decide +kernel
theorem dX7_soldier_53 : decode cX7_soldier 53 = .ok (.getfield 120, 3) := by decide +kernel
theorem dX7_soldier_56 : decode cX7_soldier 56 = .ok (.istore_n 3, 1) := by decide +kernel
theorem dX7_soldier_57 : decode cX7_soldier 57 = .ok (.iload_n 1, 1) := by decide +kernel
theorem dX7_soldier_58 : decode cX7_soldier 58 = .ok (.ifCond .ne 14, 3) := by decide +kernel
theorem dX7_soldier_61 : decode cX7_soldier 61 = .ok (.aload_n 0, 1) := by decide +kernel
theorem dX7_soldier_62 : decode cX7_soldier 62 = .ok (.getfield 23, 3) := by decide +kernel
theorem dX7_soldier_65 : decode cX7_soldier 65 = .ok (.iload_n 2, 1) := by decide +kernel
theorem dX7_soldier_66 : decode cX7_soldier 66 = .ok (.putfield 117, 3) := by decide +kernel
theorem dX7_soldier_69 : decode cX7_soldier 69 = .ok (.goto 11, 3) := by decide +kernel
theorem dX7_soldier_72 : decode cX7_soldier 72 = .ok (.aload_n 0, 1) := by decide +kernel
theorem dX7_soldier_73 : decode cX7_soldier 73 = .ok (.getfield 23, 3) := by decide +kernel
theorem dX7_soldier_76 : decode cX7_soldier 76 = .ok (.iload_n 2, 1) := by decide +kernel
theorem dX7_soldier_77 : decode cX7_soldier 77 = .ok (.putfield 120, 3) := by decide +kernel
theorem dX7_soldier_80 : decode cX7_soldier 80 = .ok (.iload_n 3, 1) := by decide +kernel
theorem dX7_soldier_81 : decode cX7_soldier 81 = .ok (.ireturn, 1) := by decide +kernel
theorem dX7_round_0 : decode cX7_round 0 = .ok (.iload_n 1, 1) := by decide +kernel
theorem dX7_round_1 : decode cX7_round 1 = .ok (.iconst (-1), 1) := by decide +kernel
theorem dX7_round_2 : decode cX7_round 2 = .ok (.if_icmp .ne 13, 3) := by decide +kernel
theorem dX7_round_5 : decode cX7_round 5 = .ok (.aload_n 0, 1) := by decide +kernel
theorem dX7_round_6 : decode cX7_round 6 = .ok (.getfield 23, 3) := by decide +kernel
theorem dX7_round_9 : decode cX7_round 9 = .ok (.iconst 0, 1) := by decide +kernel
theorem dX7_round_10 : decode cX7_round 10 = .ok (.putfield 123, 3) := by decide +kernel
theorem dX7_round_13 : decode cX7_round 13 = .ok (.iconst 0, 1) := by decide +kernel
theorem dX7_round_14 : decode cX7_round 14 = .ok (.ireturn, 1) := by decide +kernel
theorem dX7_round_15 : decode cX7_round 15 = .ok (.aload_n 0, 1) := by decide +kernel
theorem dX7_round_16 : decode cX7_round 16 = .ok (.iload_n 1, 1) := by decide +kernel
theorem dX7_round_17 : decode cX7_round 17 = .ok (.invokevirtual 76, 3) := by decide +kernel
theorem dX7_round_20 : decode cX7_round 20 = .ok (.ifCond .ne 5, 3) := by decide +kernel
theorem dX7_round_23 : decode cX7_round 23 = .ok (.iconst (-1), 1) := by decide +kernel
theorem dX7_round_24 : decode cX7_round 24 = .ok (.ireturn, 1) := by decide +kernel
theorem dX7_round_25 : decode cX7_round 25 = .ok (.aload_n 0, 1) := by decide +kernel
theorem dX7_round_26 : decode cX7_round 26 = .ok (.getfield 23, 3) := by decide +kernel
theorem dX7_round_29 : decode cX7_round 29 = .ok (.getfield 123, 3) := by decide +kernel
theorem dX7_round_32 : decode cX7_round 32 = .ok (.bipush 6, 2) := by decide +kernel
theorem dX7_round_34 : decode cX7_round 34 = .ok (.if_icmp .lt 6, 3) := by decide +kernel
theorem dX7_round_37 : decode cX7_round 37 = .ok (.bipush (-4), 2) := by decide +kernel
theorem dX7_round_39 : decode cX7_round 39 = .ok (.ireturn, 1) := by decide +kernel
theorem dX7_round_40 : decode cX7_round 40 = .ok (.aload_n 0, 1) := by decide +kernel
theorem dX7_round_41 : decode cX7_round 41 = .ok (.getfield 23, 3) := by decide +kernel
theorem dX7_round_44 : decode cX7_round 44 = .ok (.getfield 126, 3) := by decide +kernel
theorem dX7_round_47 : decode cX7_round 47 = .ok (.aload_n 0, 1) := by decide +kernel
theorem dX7_round_48 : decode cX7_round 48 = .ok (.getfield 23, 3) := by decide +kernel
theorem dX7_round_51 : decode cX7_round 51 = .ok (.getfield 123, 3) := by decide +kernel
theorem dX7_round_54 : decode cX7_round 54 = .ok (.iload_n 1, 1) := by decide +kernel
theorem dX7_round_55 : decode cX7_round 55 = .ok (.iastore, 1) := by decide +kernel
theorem dX7_round_56 : decode cX7_round 56 = .ok (.aload_n 0, 1) := by decide +kernel
theorem dX7_round_57 : decode cX7_round 57 = .ok (.getfield 23, 3) := by decide +kernel
theorem dX7_round_60 : decode cX7_round 60 = .ok (.dup, 1) := by decide +kernel
theorem dX7_round_61 : decode cX7_round 61 = .ok (.getfield 123, 3) := by decide +kernel
theorem dX7_round_64 : decode cX7_round 64 = .ok (.iconst 1, 1) := by decide +kernel
theorem dX7_round_65 : decode cX7_round 65 = .ok (.iadd, 1) := by decide +kernel
theorem dX7_round_66 : decode cX7_round 66 = .ok (.putfield 123, 3) := by decide +kernel
theorem dX7_round_69 : decode cX7_round 69 = .ok (.aload_n 0, 1) := by decide +kernel
theorem dX7_round_70 : decode cX7_round 70 = .ok (.getfield 23, 3) := by decide +kernel
theorem dX7_round_73 : decode cX7_round 73 = .ok (.getfield 123, 3) := by decide +kernel
theorem dX7_round_76 : decode cX7_round 76 = .ok (.ireturn, 1) := by decide +kernel
theorem dX7_feed_0 : decode cX7_feed 0 = .ok (.iload_n 1, 1) := by decide +kernel
theorem dX7_feed_1 : decode cX7_feed 1 = .ok (.iconst 0, 1) := by decide +kernel
theorem dX7_feed_2 : decode cX7_feed 2 = .ok (.bipush 127, 2) := by decide +kernel
theorem dX7_feed_4 : decode cX7_feed 4 = .ok (.invokestatic 58, 3) := by decide +kernel
theorem dX7_feed_7 : decode cX7_feed 7 = .ok (.ifCond .ne 6, 3) := by decide +kernel
theorem dX7_feed_10 : decode cX7_feed 10 = .ok (.bipush (-2), 2) := by decide +kernel
theorem dX7_feed_12 : decode cX7_feed 12 = .ok (.ireturn, 1) := by decide +kernel
theorem dX7_feed_13 : decode cX7_feed 13 = .ok (.aload_n 0, 1) := by decide +kernel
theorem dX7_feed_14 : decode cX7_feed 14 = .ok (.getfield 40, 3) := by decide +kernel
theorem dX7_feed_17 : decode cX7_feed 17 = .ok (.invokevirtual 129, 3) := by decide +kernel
theorem dX7_feed_20 : decode cX7_feed 20 = .ok (.ifCond .eq 8, 3) := by decide +kernel
theorem dX7_feed_23 : decode cX7_feed 23 = .ok (.bipush (-4), 2) := by decide +kernel
theorem dX7_feed_25 : decode cX7_feed 25 = .ok (.goto 11, 3) := by decide +kernel
theorem dX7_feed_28 : decode cX7_feed 28 = .ok (.aload_n 0, 1) := by decide +kernel
theorem dX7_feed_29 : decode cX7_feed 29 = .ok (.getfield 40, 3) := by decide +kernel
theorem dX7_feed_32 : decode cX7_feed 32 = .ok (.iload_n 1, 1) := by decide +kernel
theorem dX7_feed_33 : decode cX7_feed 33 = .ok (.invokevirtual 133, 3) := by decide +kernel
theorem dX7_feed_36 : decode cX7_feed 36 = .ok (.ireturn, 1) := by decide +kernel
theorem dX7_land_0 : decode cX7_land 0 = .ok (.aload_n 0, 1) := by decide +kernel
theorem dX7_land_1 : decode cX7_land 1 = .ok (.getfield 137, 3) := by decide +kernel
theorem dX7_land_4 : decode cX7_land 4 = .ok (.bipush 6, 2) := by decide +kernel
theorem dX7_land_6 : decode cX7_land 6 = .ok (.if_icmp .lt 6, 3) := by decide +kernel
theorem dX7_land_9 : decode cX7_land 9 = .ok (.bipush (-4), 2) := by decide +kernel
theorem dX7_land_11 : decode cX7_land 11 = .ok (.ireturn, 1) := by decide +kernel
theorem dX7_land_12 : decode cX7_land 12 = .ok (.aload_n 0, 1) := by decide +kernel
theorem dX7_land_13 : decode cX7_land 13 = .ok (.getfield 33, 3) := by decide +kernel
theorem dX7_land_16 : decode cX7_land 16 = .ok (.aload_n 0, 1) := by decide +kernel
theorem dX7_land_17 : decode cX7_land 17 = .ok (.getfield 137, 3) := by decide +kernel
theorem dX7_land_20 : decode cX7_land 20 = .ok (.aaload, 1) := by decide +kernel
theorem dX7_land_21 : decode cX7_land 21 = .ok (.astore_n 1, 1) := by decide +kernel
theorem dX7_land_22 : decode cX7_land 22 = .ok (.aload_n 0, 1) := by decide +kernel
theorem dX7_land_23 : decode cX7_land 23 = .ok (.getfield 40, 3) := by decide +kernel
theorem dX7_land_26 : decode cX7_land 26 = .ok (.aload_n 1, 1) := by decide +kernel
theorem dX7_land_27 : decode cX7_land 27 = .ok (.invokevirtual 140, 3) := by decide +kernel
theorem dX7_land_30 : decode cX7_land 30 = .ok (.istore_n 2, 1) := by decide +kernel
theorem dX7_land_31 : decode cX7_land 31 = .ok (.iload_n 2, 1) := by decide +kernel
theorem dX7_land_32 : decode cX7_land 32 = .ok (.ifCond .lt 8, 3) := by decide +kernel
theorem dX7_land_35 : decode cX7_land 35 = .ok (.bipush (-10), 2) := by decide +kernel
theorem dX7_land_37 : decode cX7_land 37 = .ok (.iload_n 2, 1) := by decide +kernel
theorem dX7_land_38 : decode cX7_land 38 = .ok (.isub, 1) := by decide +kernel
theorem dX7_land_39 : decode cX7_land 39 = .ok (.ireturn, 1) := by decide +kernel
theorem dX7_land_40 : decode cX7_land 40 = .ok (.aload_n 0, 1) := by decide +kernel
theorem dX7_land_41 : decode cX7_land 41 = .ok (.getfield 23, 3) := by decide +kernel
theorem dX7_land_44 : decode cX7_land 44 = .ok (.aload_n 1, 1) := by decide +kernel
theorem dX7_land_45 : decode cX7_land 45 = .ok (.invokevirtual 144, 3) := by decide +kernel
theorem dX7_land_48 : decode cX7_land 48 = .ok (.aload_n 0, 1) := by decide +kernel
theorem dX7_land_49 : decode cX7_land 49 = .ok (.dup, 1) := by decide +kernel
theorem dX7_land_50 : decode cX7_land 50 = .ok (.getfield 137, 3) := by decide +kernel
theorem dX7_land_53 : decode cX7_land 53 = .ok (.iconst 1, 1) := by decide +kernel
theorem dX7_land_54 : decode cX7_land 54 = .ok (.iadd, 1) := by decide +kernel
theorem dX7_land_55 : decode cX7_land 55 = .ok (.putfield 137, 3) := by decide +kernel
theorem dX7_land_58 : decode cX7_land 58 = .ok (.aload_n 0, 1) := by decide +kernel
theorem dX7_land_59 : decode cX7_land 59 = .ok (.getfield 137, 3) := by decide +kernel
theorem dX7_land_62 : decode cX7_land 62 = .ok (.iconst 1, 1) := by decide +kernel
theorem dX7_land_63 : decode cX7_land 63 = .ok (.isub, 1) := by decide +kernel
theorem dX7_land_64 : decode cX7_land 64 = .ok (.ireturn, 1) := by decide +kernel
theorem dX7_told_0 : decode cX7_told 0 = .ok (.iload_n 1, 1) := by decide +kernel
theorem dX7_told_1 : decode cX7_told 1 = .ok (.tableswitch 118 0 7 #[47, 55, 63, 71, 79, 87, 95, 103], 47) := by decide +kernel
theorem dX7_told_48 : decode cX7_told 48 = .ok (.aload_n 0, 1) := by decide +kernel
theorem dX7_told_49 : decode cX7_told 49 = .ok (.getfield 23, 3) := by decide +kernel
theorem dX7_told_52 : decode cX7_told 52 = .ok (.getfield 147, 3) := by decide +kernel
theorem dX7_told_55 : decode cX7_told 55 = .ok (.ireturn, 1) := by decide +kernel
theorem dX7_told_56 : decode cX7_told 56 = .ok (.aload_n 0, 1) := by decide +kernel
theorem dX7_told_57 : decode cX7_told 57 = .ok (.getfield 23, 3) := by decide +kernel
theorem dX7_told_60 : decode cX7_told 60 = .ok (.getfield 117, 3) := by decide +kernel
theorem dX7_told_63 : decode cX7_told 63 = .ok (.ireturn, 1) := by decide +kernel
theorem dX7_told_64 : decode cX7_told 64 = .ok (.aload_n 0, 1) := by decide +kernel
theorem dX7_told_65 : decode cX7_told 65 = .ok (.getfield 23, 3) := by decide +kernel
theorem dX7_told_68 : decode cX7_told 68 = .ok (.getfield 120, 3) := by decide +kernel
theorem dX7_told_71 : decode cX7_told 71 = .ok (.ireturn, 1) := by decide +kernel
theorem dX7_told_72 : decode cX7_told 72 = .ok (.aload_n 0, 1) := by decide +kernel
theorem dX7_told_73 : decode cX7_told 73 = .ok (.getfield 23, 3) := by decide +kernel
theorem dX7_told_76 : decode cX7_told 76 = .ok (.getfield 150, 3) := by decide +kernel
theorem dX7_told_79 : decode cX7_told 79 = .ok (.ireturn, 1) := by decide +kernel
theorem dX7_told_80 : decode cX7_told 80 = .ok (.aload_n 0, 1) := by decide +kernel
theorem dX7_told_81 : decode cX7_told 81 = .ok (.getfield 23, 3) := by decide +kernel
theorem dX7_told_84 : decode cX7_told 84 = .ok (.getfield 153, 3) := by decide +kernel
theorem dX7_told_87 : decode cX7_told 87 = .ok (.ireturn, 1) := by decide +kernel
theorem dX7_told_88 : decode cX7_told 88 = .ok (.aload_n 0, 1) := by decide +kernel
theorem dX7_told_89 : decode cX7_told 89 = .ok (.getfield 23, 3) := by decide +kernel
theorem dX7_told_92 : decode cX7_told 92 = .ok (.getfield 156, 3) := by decide +kernel
theorem dX7_told_95 : decode cX7_told 95 = .ok (.ireturn, 1) := by decide +kernel
theorem dX7_told_96 : decode cX7_told 96 = .ok (.aload_n 0, 1) := by decide +kernel
theorem dX7_told_97 : decode cX7_told 97 = .ok (.getfield 23, 3) := by decide +kernel
theorem dX7_told_100 : decode cX7_told 100 = .ok (.invokevirtual 96, 3) := by decide +kernel
theorem dX7_told_103 : decode cX7_told 103 = .ok (.ireturn, 1) := by decide +kernel
theorem dX7_told_104 : decode cX7_told 104 = .ok (.aload_n 0, 1) := by decide +kernel
theorem dX7_told_105 : decode cX7_told 105 = .ok (.getfield 23, 3) := by decide +kernel
theorem dX7_told_108 : decode cX7_told 108 = .ok (.aload_n 0, 1) := by decide +kernel
theorem dX7_told_109 : decode cX7_told 109 = .ok (.getfield 23, 3) := by decide +kernel
theorem dX7_told_112 : decode cX7_told 112 = .ok (.invokevirtual 96, 3) := by decide +kernel
theorem dX7_told_115 : decode cX7_told 115 = .ok (.invokevirtual 159, 3) := by decide +kernel
theorem dX7_told_118 : decode cX7_told 118 = .ok (.ireturn, 1) := by decide +kernel
theorem dX7_told_119 : decode cX7_told 119 = .ok (.iload_n 1, 1) := by decide +kernel
theorem dX7_told_120 : decode cX7_told 120 = .ok (.bipush 10, 2) := by decide +kernel
theorem dX7_told_122 : decode cX7_told 122 = .ok (.bipush 9, 2) := by decide +kernel
theorem dX7_told_124 : decode cX7_told 124 = .ok (.aload_n 0, 1) := by decide +kernel
theorem dX7_told_125 : decode cX7_told 125 = .ok (.getfield 23, 3) := by decide +kernel
theorem dX7_told_128 : decode cX7_told 128 = .ok (.getfield 123, 3) := by decide +kernel
theorem dX7_told_131 : decode cX7_told 131 = .ok (.iadd, 1) := by decide +kernel
theorem dX7_told_132 : decode cX7_told 132 = .ok (.invokestatic 58, 3) := by decide +kernel
theorem dX7_told_135 : decode cX7_told 135 = .ok (.ifCond .eq 18, 3) := by decide +kernel
theorem dX7_told_138 : decode cX7_told 138 = .ok (.aload_n 0, 1) := by decide +kernel
theorem dX7_told_139 : decode cX7_told 139 = .ok (.getfield 23, 3) := by decide +kernel
theorem dX7_told_142 : decode cX7_told 142 = .ok (.getfield 126, 3) := by decide +kernel
theorem dX7_told_145 : decode cX7_told 145 = .ok (.iload_n 1, 1) := by decide +kernel
theorem dX7_told_146 : decode cX7_told 146 = .ok (.bipush 10, 2) := by decide +kernel
theorem dX7_told_148 : decode cX7_told 148 = .ok (.isub, 1) := by decide +kernel
theorem dX7_told_149 : decode cX7_told 149 = .ok (.iaload, 1) := by decide +kernel
theorem dX7_told_150 : decode cX7_told 150 = .ok (.goto 4, 3) := by decide +kernel
theorem dX7_told_153 : decode cX7_told 153 = .ok (.iconst (-1), 1) := by decide +kernel
theorem dX7_told_154 : decode cX7_told 154 = .ok (.ireturn, 1) := by decide +kernel
theorem dX7_pass_0 : decode cX7_pass 0 = .ok (.iload_n 1, 1) := by decide +kernel
theorem dX7_pass_1 : decode cX7_pass 1 = .ok (.iconst 0, 1) := by decide +kernel
theorem dX7_pass_2 : decode cX7_pass 2 = .ok (.bipush 60, 2) := by decide +kernel
theorem dX7_pass_4 : decode cX7_pass 4 = .ok (.invokestatic 58, 3) := by decide +kernel
theorem dX7_pass_7 : decode cX7_pass 7 = .ok (.ifCond .ne 6, 3) := by decide +kernel
theorem dX7_pass_10 : decode cX7_pass 10 = .ok (.bipush (-2), 2) := by decide +kernel
theorem dX7_pass_12 : decode cX7_pass 12 = .ok (.ireturn, 1) := by decide +kernel
theorem dX7_pass_13 : decode cX7_pass 13 = .ok (.aload_n 0, 1) := by decide +kernel
theorem dX7_pass_14 : decode cX7_pass 14 = .ok (.getfield 23, 3) := by decide +kernel
theorem dX7_pass_17 : decode cX7_pass 17 = .ok (.invokevirtual 162, 3) := by decide +kernel
theorem dX7_pass_20 : decode cX7_pass 20 = .ok (.ifCond .ne 18, 3) := by decide +kernel
theorem dX7_pass_23 : decode cX7_pass 23 = .ok (.aload_n 0, 1) := by decide +kernel
theorem dX7_pass_24 : decode cX7_pass 24 = .ok (.getfield 23, 3) := by decide +kernel
theorem dX7_pass_27 : decode cX7_pass 27 = .ok (.getfield 147, 3) := by decide +kernel
theorem dX7_pass_30 : decode cX7_pass 30 = .ok (.iload_n 1, 1) := by decide +kernel
theorem dX7_pass_31 : decode cX7_pass 31 = .ok (.iadd, 1) := by decide +kernel
theorem dX7_pass_32 : decode cX7_pass 32 = .ok (.sipush 9999, 3) := by decide +kernel
theorem dX7_pass_35 : decode cX7_pass 35 = .ok (.if_icmp .le 6, 3) := by decide +kernel
theorem dX7_pass_38 : decode cX7_pass 38 = .ok (.bipush (-3), 2) := by decide +kernel
theorem dX7_pass_40 : decode cX7_pass 40 = .ok (.ireturn, 1) := by decide +kernel
theorem dX7_pass_41 : decode cX7_pass 41 = .ok (.aload_n 0, 1) := by decide +kernel
theorem dX7_pass_42 : decode cX7_pass 42 = .ok (.getfield 23, 3) := by decide +kernel
theorem dX7_pass_45 : decode cX7_pass 45 = .ok (.iload_n 1, 1) := by decide +kernel
theorem dX7_pass_46 : decode cX7_pass 46 = .ok (.invokevirtual 165, 3) := by decide +kernel
theorem dX7_pass_49 : decode cX7_pass 49 = .ok (.aload_n 0, 1) := by decide +kernel
theorem dX7_pass_50 : decode cX7_pass 50 = .ok (.getfield 23, 3) := by decide +kernel
theorem dX7_pass_53 : decode cX7_pass 53 = .ok (.getfield 117, 3) := by decide +kernel
theorem dX7_pass_56 : decode cX7_pass 56 = .ok (.ireturn, 1) := by decide +kernel
theorem dX7_on_0 : decode cX7_on 0 = .ok (.iload_n 2, 1) := by decide +kernel
theorem dX7_on_1 : decode cX7_on 1 = .ok (.bipush 10, 2) := by decide +kernel
theorem dX7_on_3 : decode cX7_on 3 = .ok (.if_icmp .lt 18, 3) := by decide +kernel
theorem dX7_on_6 : decode cX7_on 6 = .ok (.aload_n 0, 1) := by decide +kernel
theorem dX7_on_7 : decode cX7_on 7 = .ok (.iload_n 2, 1) := by decide +kernel
theorem dX7_on_8 : decode cX7_on 8 = .ok (.bipush 10, 2) := by decide +kernel
theorem dX7_on_10 : decode cX7_on 10 = .ok (.isub, 1) := by decide +kernel
theorem dX7_on_11 : decode cX7_on 11 = .ok (.invokevirtual 76, 3) := by decide +kernel
theorem dX7_on_14 : decode cX7_on 14 = .ok (.ifCond .eq 7, 3) := by decide +kernel
theorem dX7_on_17 : decode cX7_on 17 = .ok (.iconst 1, 1) := by decide +kernel
theorem dX7_on_18 : decode cX7_on 18 = .ok (.goto 4, 3) := by decide +kernel
theorem dX7_on_21 : decode cX7_on 21 = .ok (.iconst 0, 1) := by decide +kernel
theorem dX7_on_22 : decode cX7_on 22 = .ok (.istore_n 3, 1) := by decide +kernel
theorem dX7_on_23 : decode cX7_on 23 = .ok (.iload_n 2, 1) := by decide +kernel
theorem dX7_on_24 : decode cX7_on 24 = .ok (.bipush 20, 2) := by decide +kernel
theorem dX7_on_26 : decode cX7_on 26 = .ok (.if_icmp .lt 18, 3) := by decide +kernel
theorem dX7_on_29 : decode cX7_on 29 = .ok (.aload_n 0, 1) := by decide +kernel
theorem dX7_on_30 : decode cX7_on 30 = .ok (.iload_n 2, 1) := by decide +kernel
theorem dX7_on_31 : decode cX7_on 31 = .ok (.bipush 20, 2) := by decide +kernel
theorem dX7_on_33 : decode cX7_on 33 = .ok (.isub, 1) := by decide +kernel
theorem dX7_on_34 : decode cX7_on 34 = .ok (.invokevirtual 76, 3) := by decide +kernel
theorem dX7_on_37 : decode cX7_on 37 = .ok (.ifCond .eq 7, 3) := by decide +kernel
theorem dX7_on_40 : decode cX7_on 40 = .ok (.iconst 1, 1) := by decide +kernel
theorem dX7_on_41 : decode cX7_on 41 = .ok (.goto 4, 3) := by decide +kernel
theorem dX7_on_44 : decode cX7_on 44 = .ok (.iconst 0, 1) := by decide +kernel
theorem dX7_on_45 : decode cX7_on 45 = .ok (.istore 4, 2) := by decide +kernel
theorem dX7_on_47 : decode cX7_on 47 = .ok (.iload_n 2, 1) := by decide +kernel
theorem dX7_on_48 : decode cX7_on 48 = .ok (.iconst 0, 1) := by decide +kernel
theorem dX7_on_49 : decode cX7_on 49 = .ok (.iconst 2, 1) := by decide +kernel
theorem dX7_on_50 : decode cX7_on 50 = .ok (.invokestatic 58, 3) := by decide +kernel
theorem dX7_on_53 : decode cX7_on 53 = .ok (.ifCond .ne 14, 3) := by decide +kernel
theorem dX7_on_56 : decode cX7_on 56 = .ok (.iload_n 3, 1) := by decide +kernel
theorem dX7_on_57 : decode cX7_on 57 = .ok (.ifCond .ne 10, 3) := by decide +kernel
theorem dX7_on_60 : decode cX7_on 60 = .ok (.iload 4, 2) := by decide +kernel
theorem dX7_on_62 : decode cX7_on 62 = .ok (.ifCond .ne 5, 3) := by decide +kernel
theorem dX7_on_65 : decode cX7_on 65 = .ok (.iconst (-1), 1) := by decide +kernel
theorem dX7_on_66 : decode cX7_on 66 = .ok (.ireturn, 1) := by decide +kernel
theorem dX7_on_67 : decode cX7_on 67 = .ok (.iload_n 1, 1) := by decide +kernel
theorem dX7_on_68 : decode cX7_on 68 = .ok (.iconst 0, 1) := by decide +kernel
theorem dX7_on_69 : decode cX7_on 69 = .ok (.bipush 60, 2) := by decide +kernel
theorem dX7_on_71 : decode cX7_on 71 = .ok (.invokestatic 58, 3) := by decide +kernel
theorem dX7_on_74 : decode cX7_on 74 = .ok (.ifCond .ne 6, 3) := by decide +kernel
theorem dX7_on_77 : decode cX7_on 77 = .ok (.bipush (-2), 2) := by decide +kernel
theorem dX7_on_79 : decode cX7_on 79 = .ok (.ireturn, 1) := by decide +kernel
theorem dX7_on_80 : decode cX7_on 80 = .ok (.aload_n 0, 1) := by decide +kernel
theorem dX7_on_81 : decode cX7_on 81 = .ok (.getfield 27, 3) := by decide +kernel
theorem dX7_on_84 : decode cX7_on 84 = .ok (.aload_n 0, 1) := by decide +kernel
theorem dX7_on_85 : decode cX7_on 85 = .ok (.getfield 23, 3) := by decide +kernel
theorem dX7_on_88 : decode cX7_on 88 = .ok (.invokevirtual 169, 3) := by decide +kernel
theorem dX7_on_91 : decode cX7_on 91 = .ok (.aload_n 0, 1) := by decide +kernel
theorem dX7_on_92 : decode cX7_on 92 = .ok (.getfield 27, 3) := by decide +kernel
theorem dX7_on_95 : decode cX7_on 95 = .ok (.iload_n 1, 1) := by decide +kernel
theorem dX7_on_96 : decode cX7_on 96 = .ok (.invokevirtual 165, 3) := by decide +kernel
theorem dX7_on_99 : decode cX7_on 99 = .ok (.iload_n 3, 1) := by decide +kernel
theorem dX7_on_100 : decode cX7_on 100 = .ok (.ifCond .eq 19, 3) := by decide +kernel
theorem dX7_on_103 : decode cX7_on 103 = .ok (.aload_n 0, 1) := by decide +kernel
theorem dX7_on_104 : decode cX7_on 104 = .ok (.getfield 27, 3) := by decide +kernel
theorem dX7_on_107 : decode cX7_on 107 = .ok (.getfield 62, 3) := by decide +kernel
theorem dX7_on_110 : decode cX7_on 110 = .ok (.getfield 87, 3) := by decide +kernel
theorem dX7_on_113 : decode cX7_on 113 = .ok (.iload_n 2, 1) := by decide +kernel
theorem dX7_on_114 : decode cX7_on 114 = .ok (.bipush 10, 2) := by decide +kernel
theorem dX7_on_116 : decode cX7_on 116 = .ok (.isub, 1) := by decide +kernel
theorem dX7_on_117 : decode cX7_on 117 = .ok (.iaload, 1) := by decide +kernel
theorem dX7_on_118 : decode cX7_on 118 = .ok (.ireturn, 1) := by decide +kernel
theorem dX7_on_119 : decode cX7_on 119 = .ok (.iload 4, 2) := by decide +kernel
theorem dX7_on_121 : decode cX7_on 121 = .ok (.ifCond .eq 19, 3) := by decide +kernel
theorem dX7_on_124 : decode cX7_on 124 = .ok (.aload_n 0, 1) := by decide +kernel
theorem dX7_on_125 : decode cX7_on 125 = .ok (.getfield 27, 3) := by decide +kernel
theorem dX7_on_128 : decode cX7_on 128 = .ok (.getfield 62, 3) := by decide +kernel
theorem dX7_on_131 : decode cX7_on 131 = .ok (.getfield 90, 3) := by decide +kernel
theorem dX7_on_134 : decode cX7_on 134 = .ok (.iload_n 2, 1) := by decide +kernel
theorem dX7_on_135 : decode cX7_on 135 = .ok (.bipush 20, 2) := by decide +kernel
theorem dX7_on_137 : decode cX7_on 137 = .ok (.isub, 1) := by decide +kernel
theorem dX7_on_138 : decode cX7_on 138 = .ok (.iaload, 1) := by decide +kernel
theorem dX7_on_139 : decode cX7_on 139 = .ok (.ireturn, 1) := by decide +kernel
theorem dX7_on_140 : decode cX7_on 140 = .ok (.iload_n 2, 1) := by decide +kernel
theorem dX7_on_141 : decode cX7_on 141 = .ok (.iconst 2, 1) := by decide +kernel
theorem dX7_on_142 : decode cX7_on 142 = .ok (.if_icmp .ne 11, 3) := by decide +kernel
theorem dX7_on_145 : decode cX7_on 145 = .ok (.aload_n 0, 1) := by decide +kernel
theorem dX7_on_146 : decode cX7_on 146 = .ok (.getfield 27, 3) := by decide +kernel
theorem dX7_on_149 : decode cX7_on 149 = .ok (.invokevirtual 96, 3) := by decide +kernel
theorem dX7_on_152 : decode cX7_on 152 = .ok (.ireturn, 1) := by decide +kernel
theorem dX7_on_153 : decode cX7_on 153 = .ok (.iload_n 2, 1) := by decide +kernel
theorem dX7_on_154 : decode cX7_on 154 = .ok (.ifCond .ne 13, 3) := by decide +kernel
theorem dX7_on_157 : decode cX7_on 157 = .ok (.aload_n 0, 1) := by decide +kernel
theorem dX7_on_158 : decode cX7_on 158 = .ok (.getfield 27, 3) := by decide +kernel
theorem dX7_on_161 : decode cX7_on 161 = .ok (.getfield 117, 3) := by decide +kernel
theorem dX7_on_164 : decode cX7_on 164 = .ok (.goto 10, 3) := by decide +kernel
theorem dX7_on_167 : decode cX7_on 167 = .ok (.aload_n 0, 1) := by decide +kernel
theorem dX7_on_168 : decode cX7_on 168 = .ok (.getfield 27, 3) := by decide +kernel
theorem dX7_on_171 : decode cX7_on 171 = .ok (.getfield 120, 3) := by decide +kernel
theorem dX7_on_174 : decode cX7_on 174 = .ok (.ireturn, 1) := by decide +kernel
theorem dX7_dies_0 : decode cX7_dies 0 = .ok (.aload_n 0, 1) := by decide +kernel
theorem dX7_dies_1 : decode cX7_dies 1 = .ok (.getfield 27, 3) := by decide +kernel
theorem dX7_dies_4 : decode cX7_dies 4 = .ok (.aload_n 0, 1) := by decide +kernel
theorem dX7_dies_5 : decode cX7_dies 5 = .ok (.getfield 23, 3) := by decide +kernel
theorem dX7_dies_8 : decode cX7_dies 8 = .ok (.invokevirtual 169, 3) := by decide +kernel
theorem dX7_dies_11 : decode cX7_dies 11 = .ok (.iconst 0, 1) := by decide +kernel
theorem dX7_dies_12 : decode cX7_dies 12 = .ok (.istore_n 1, 1) := by decide +kernel
theorem dX7_dies_13 : decode cX7_dies 13 = .ok (.iload_n 1, 1) := by decide +kernel
theorem dX7_dies_14 : decode cX7_dies 14 = .ok (.bipush 99, 2) := by decide +kernel
theorem dX7_dies_16 : decode cX7_dies 16 = .ok (.if_icmp .gt 28, 3) := by decide +kernel
theorem dX7_dies_19 : decode cX7_dies 19 = .ok (.aload_n 0, 1) := by decide +kernel
theorem dX7_dies_20 : decode cX7_dies 20 = .ok (.getfield 27, 3) := by decide +kernel
theorem dX7_dies_23 : decode cX7_dies 23 = .ok (.invokevirtual 162, 3) := by decide +kernel
theorem dX7_dies_26 : decode cX7_dies 26 = .ok (.ifCond .eq 5, 3) := by decide +kernel
theorem dX7_dies_29 : decode cX7_dies 29 = .ok (.iload_n 1, 1) := by decide +kernel
theorem dX7_dies_30 : decode cX7_dies 30 = .ok (.ireturn, 1) := by decide +kernel
theorem dX7_dies_31 : decode cX7_dies 31 = .ok (.aload_n 0, 1) := by decide +kernel
theorem dX7_dies_32 : decode cX7_dies 32 = .ok (.getfield 27, 3) := by decide +kernel
theorem dX7_dies_35 : decode cX7_dies 35 = .ok (.invokevirtual 173, 3) := by decide +kernel
theorem dX7_dies_38 : decode cX7_dies 38 = .ok (.iinc 1 1, 3) := by decide +kernel
theorem dX7_dies_41 : decode cX7_dies 41 = .ok (.goto (-28), 3) := by decide +kernel
theorem dX7_dies_44 : decode cX7_dies 44 = .ok (.bipush (-5), 2) := by decide +kernel
theorem dX7_dies_46 : decode cX7_dies 46 = .ok (.ireturn, 1) := by decide +kernel
theorem dX7_worst_0 : decode cX7_worst 0 = .ok (.iload_n 2, 1) := by decide +kernel
theorem dX7_worst_1 : decode cX7_worst 1 = .ok (.iconst 0, 1) := by decide +kernel
theorem dX7_worst_2 : decode cX7_worst 2 = .ok (.iconst 1, 1) := by decide +kernel
theorem dX7_worst_3 : decode cX7_worst 3 = .ok (.invokestatic 58, 3) := by decide +kernel
theorem dX7_worst_6 : decode cX7_worst 6 = .ok (.ifCond .ne 5, 3) := by decide +kernel
theorem dX7_worst_9 : decode cX7_worst 9 = .ok (.iconst (-1), 1) := by decide +kernel
theorem dX7_worst_10 : decode cX7_worst 10 = .ok (.ireturn, 1) := by decide +kernel
theorem dX7_worst_11 : decode cX7_worst 11 = .ok (.iload_n 1, 1) := by decide +kernel
theorem dX7_worst_12 : decode cX7_worst 12 = .ok (.iconst 0, 1) := by decide +kernel
theorem dX7_worst_13 : decode cX7_worst 13 = .ok (.bipush 60, 2) := by decide +kernel
theorem dX7_worst_15 : decode cX7_worst 15 = .ok (.invokestatic 58, 3) := by decide +kernel
theorem dX7_worst_18 : decode cX7_worst 18 = .ok (.ifCond .ne 6, 3) := by decide +kernel
theorem dX7_worst_21 : decode cX7_worst 21 = .ok (.bipush (-2), 2) := by decide +kernel
theorem dX7_worst_23 : decode cX7_worst 23 = .ok (.ireturn, 1) := by decide +kernel
theorem dX7_worst_24 : decode cX7_worst 24 = .ok (.aload_n 0, 1) := by decide +kernel
theorem dX7_worst_25 : decode cX7_worst 25 = .ok (.getfield 27, 3) := by decide +kernel
theorem dX7_worst_28 : decode cX7_worst 28 = .ok (.aload_n 0, 1) := by decide +kernel
theorem dX7_worst_29 : decode cX7_worst 29 = .ok (.getfield 23, 3) := by decide +kernel
theorem dX7_worst_32 : decode cX7_worst 32 = .ok (.invokevirtual 169, 3) := by decide +kernel
theorem dX7_worst_35 : decode cX7_worst 35 = .ok (.aload_n 0, 1) := by decide +kernel
theorem dX7_worst_36 : decode cX7_worst 36 = .ok (.getfield 27, 3) := by decide +kernel
theorem dX7_worst_39 : decode cX7_worst 39 = .ok (.getfield 117, 3) := by decide +kernel
theorem dX7_worst_42 : decode cX7_worst 42 = .ok (.istore_n 3, 1) := by decide +kernel
theorem dX7_worst_43 : decode cX7_worst 43 = .ok (.iconst 0, 1) := by decide +kernel
theorem dX7_worst_44 : decode cX7_worst 44 = .ok (.istore 4, 2) := by decide +kernel
theorem dX7_worst_46 : decode cX7_worst 46 = .ok (.iconst 1, 1) := by decide +kernel
theorem dX7_worst_47 : decode cX7_worst 47 = .ok (.istore 5, 2) := by decide +kernel
theorem dX7_worst_49 : decode cX7_worst 49 = .ok (.iload 5, 2) := by decide +kernel
theorem dX7_worst_51 : decode cX7_worst 51 = .ok (.iload_n 1, 1) := by decide +kernel
theorem dX7_worst_52 : decode cX7_worst 52 = .ok (.if_icmp .gt 39, 3) := by decide +kernel
theorem dX7_worst_55 : decode cX7_worst 55 = .ok (.aload_n 0, 1) := by decide +kernel
theorem dX7_worst_56 : decode cX7_worst 56 = .ok (.getfield 27, 3) := by decide +kernel
theorem dX7_worst_59 : decode cX7_worst 59 = .ok (.invokevirtual 173, 3) := by decide +kernel
theorem dX7_worst_62 : decode cX7_worst 62 = .ok (.aload_n 0, 1) := by decide +kernel
theorem dX7_worst_63 : decode cX7_worst 63 = .ok (.getfield 27, 3) := by decide +kernel
theorem dX7_worst_66 : decode cX7_worst 66 = .ok (.getfield 117, 3) := by decide +kernel
theorem dX7_worst_69 : decode cX7_worst 69 = .ok (.iload_n 3, 1) := by decide +kernel
theorem dX7_worst_70 : decode cX7_worst 70 = .ok (.if_icmp .ge 15, 3) := by decide +kernel
theorem dX7_worst_73 : decode cX7_worst 73 = .ok (.aload_n 0, 1) := by decide +kernel
theorem dX7_worst_74 : decode cX7_worst 74 = .ok (.getfield 27, 3) := by decide +kernel
theorem dX7_worst_77 : decode cX7_worst 77 = .ok (.getfield 117, 3) := by decide +kernel
theorem dX7_worst_80 : decode cX7_worst 80 = .ok (.istore_n 3, 1) := by decide +kernel
theorem dX7_worst_81 : decode cX7_worst 81 = .ok (.iload 5, 2) := by decide +kernel
theorem dX7_worst_83 : decode cX7_worst 83 = .ok (.istore 4, 2) := by decide +kernel
theorem dX7_worst_85 : decode cX7_worst 85 = .ok (.iinc 5 1, 3) := by decide +kernel
theorem dX7_worst_88 : decode cX7_worst 88 = .ok (.goto (-39), 3) := by decide +kernel
theorem dX7_worst_91 : decode cX7_worst 91 = .ok (.iload_n 2, 1) := by decide +kernel
theorem dX7_worst_92 : decode cX7_worst 92 = .ok (.ifCond .ne 7, 3) := by decide +kernel
theorem dX7_worst_95 : decode cX7_worst 95 = .ok (.iload_n 3, 1) := by decide +kernel
theorem dX7_worst_96 : decode cX7_worst 96 = .ok (.goto 5, 3) := by decide +kernel
theorem dX7_worst_99 : decode cX7_worst 99 = .ok (.iload 4, 2) := by decide +kernel
theorem dX7_worst_101 : decode cX7_worst 101 = .ok (.ireturn, 1) := by decide +kernel
theorem dX7_aim_0 : decode cX7_aim 0 = .ok (.bipush (-5), 2) := by decide +kernel
theorem dX7_aim_2 : decode cX7_aim 2 = .ok (.istore_n 1, 1) := by decide +kernel
theorem dX7_aim_3 : decode cX7_aim 3 = .ok (.iconst (-1), 1) := by decide +kernel
theorem dX7_aim_4 : decode cX7_aim 4 = .ok (.istore_n 2, 1) := by decide +kernel
theorem dX7_aim_5 : decode cX7_aim 5 = .ok (.iconst 0, 1) := by decide +kernel
theorem dX7_aim_6 : decode cX7_aim 6 = .ok (.istore_n 3, 1) := by decide +kernel
theorem dX7_aim_7 : decode cX7_aim 7 = .ok (.iload_n 3, 1) := by decide +kernel
theorem dX7_aim_8 : decode cX7_aim 8 = .ok (.aload_n 0, 1) := by decide +kernel
theorem dX7_aim_9 : decode cX7_aim 9 = .ok (.getfield 23, 3) := by decide +kernel
theorem dX7_aim_12 : decode cX7_aim 12 = .ok (.getfield 62, 3) := by decide +kernel
theorem dX7_aim_15 : decode cX7_aim 15 = .ok (.getfield 66, 3) := by decide +kernel
theorem dX7_aim_18 : decode cX7_aim 18 = .ok (.if_icmp .ge 68, 3) := by decide +kernel
theorem dX7_aim_21 : decode cX7_aim 21 = .ok (.aload_n 0, 1) := by decide +kernel
theorem dX7_aim_22 : decode cX7_aim 22 = .ok (.getfield 27, 3) := by decide +kernel
theorem dX7_aim_25 : decode cX7_aim 25 = .ok (.aload_n 0, 1) := by decide +kernel
theorem dX7_aim_26 : decode cX7_aim 26 = .ok (.getfield 23, 3) := by decide +kernel
theorem dX7_aim_29 : decode cX7_aim 29 = .ok (.invokevirtual 169, 3) := by decide +kernel
theorem dX7_aim_32 : decode cX7_aim 32 = .ok (.aload_n 0, 1) := by decide +kernel
theorem dX7_aim_33 : decode cX7_aim 33 = .ok (.getfield 27, 3) := by decide +kernel
theorem dX7_aim_36 : decode cX7_aim 36 = .ok (.getfield 126, 3) := by decide +kernel
theorem dX7_aim_39 : decode cX7_aim 39 = .ok (.iconst 0, 1) := by decide +kernel
theorem dX7_aim_40 : decode cX7_aim 40 = .ok (.iload_n 3, 1) := by decide +kernel
theorem dX7_aim_41 : decode cX7_aim 41 = .ok (.iastore, 1) := by decide +kernel
theorem dX7_aim_42 : decode cX7_aim 42 = .ok (.aload_n 0, 1) := by decide +kernel
theorem dX7_aim_43 : decode cX7_aim 43 = .ok (.getfield 27, 3) := by decide +kernel
theorem dX7_aim_46 : decode cX7_aim 46 = .ok (.iconst 1, 1) := by decide +kernel
theorem dX7_aim_47 : decode cX7_aim 47 = .ok (.putfield 123, 3) := by decide +kernel
theorem dX7_aim_50 : decode cX7_aim 50 = .ok (.aload_n 0, 1) := by decide +kernel
theorem dX7_aim_51 : decode cX7_aim 51 = .ok (.getfield 27, 3) := by decide +kernel
theorem dX7_aim_54 : decode cX7_aim 54 = .ok (.bipush 40, 2) := by decide +kernel
theorem dX7_aim_56 : decode cX7_aim 56 = .ok (.invokevirtual 165, 3) := by decide +kernel
theorem dX7_aim_59 : decode cX7_aim 59 = .ok (.aload_n 0, 1) := by decide +kernel
theorem dX7_aim_60 : decode cX7_aim 60 = .ok (.getfield 27, 3) := by decide +kernel
theorem dX7_aim_63 : decode cX7_aim 63 = .ok (.getfield 117, 3) := by decide +kernel
theorem dX7_aim_66 : decode cX7_aim 66 = .ok (.iload_n 2, 1) := by decide +kernel
theorem dX7_aim_67 : decode cX7_aim 67 = .ok (.if_icmp .le 13, 3) := by decide +kernel
theorem dX7_aim_70 : decode cX7_aim 70 = .ok (.aload_n 0, 1) := by decide +kernel
theorem dX7_aim_71 : decode cX7_aim 71 = .ok (.getfield 27, 3) := by decide +kernel
theorem dX7_aim_74 : decode cX7_aim 74 = .ok (.getfield 117, 3) := by decide +kernel
theorem dX7_aim_77 : decode cX7_aim 77 = .ok (.istore_n 2, 1) := by decide +kernel
theorem dX7_aim_78 : decode cX7_aim 78 = .ok (.iload_n 3, 1) := by decide +kernel
theorem dX7_aim_79 : decode cX7_aim 79 = .ok (.istore_n 1, 1) := by decide +kernel
theorem dX7_aim_80 : decode cX7_aim 80 = .ok (.iinc 3 1, 3) := by decide +kernel
theorem dX7_aim_83 : decode cX7_aim 83 = .ok (.goto (-76), 3) := by decide +kernel
theorem dX7_aim_86 : decode cX7_aim 86 = .ok (.iload_n 1, 1) := by decide +kernel
theorem dX7_aim_87 : decode cX7_aim 87 = .ok (.ireturn, 1) := by decide +kernel
theorem dX7_swap_0 : decode cX7_swap 0 = .ok (.bipush (-5), 2) := by decide +kernel
theorem dX7_swap_2 : decode cX7_swap 2 = .ok (.istore_n 1, 1) := by decide +kernel
theorem dX7_swap_3 : decode cX7_swap 3 = .ok (.aload_n 0, 1) := by decide +kernel
theorem dX7_swap_4 : decode cX7_swap 4 = .ok (.getfield 27, 3) := by decide +kernel
theorem dX7_swap_7 : decode cX7_swap 7 = .ok (.aload_n 0, 1) := by decide +kernel
theorem dX7_swap_8 : decode cX7_swap 8 = .ok (.getfield 23, 3) := by decide +kernel
theorem dX7_swap_11 : decode cX7_swap 11 = .ok (.invokevirtual 169, 3) := by decide +kernel
theorem dX7_swap_14 : decode cX7_swap 14 = .ok (.aload_n 0, 1) := by decide +kernel
theorem dX7_swap_15 : decode cX7_swap 15 = .ok (.getfield 27, 3) := by decide +kernel
theorem dX7_swap_18 : decode cX7_swap 18 = .ok (.bipush 40, 2) := by decide +kernel
theorem dX7_swap_20 : decode cX7_swap 20 = .ok (.invokevirtual 165, 3) := by decide +kernel
theorem dX7_swap_23 : decode cX7_swap 23 = .ok (.aload_n 0, 1) := by decide +kernel
theorem dX7_swap_24 : decode cX7_swap 24 = .ok (.getfield 27, 3) := by decide +kernel
theorem dX7_swap_27 : decode cX7_swap 27 = .ok (.getfield 117, 3) := by decide +kernel
theorem dX7_swap_30 : decode cX7_swap 30 = .ok (.istore_n 2, 1) := by decide +kernel
theorem dX7_swap_31 : decode cX7_swap 31 = .ok (.iconst 0, 1) := by decide +kernel
theorem dX7_swap_32 : decode cX7_swap 32 = .ok (.istore_n 3, 1) := by decide +kernel
theorem dX7_swap_33 : decode cX7_swap 33 = .ok (.iload_n 3, 1) := by decide +kernel
theorem dX7_swap_34 : decode cX7_swap 34 = .ok (.aload_n 0, 1) := by decide +kernel
theorem dX7_swap_35 : decode cX7_swap 35 = .ok (.getfield 23, 3) := by decide +kernel
theorem dX7_swap_38 : decode cX7_swap 38 = .ok (.getfield 123, 3) := by decide +kernel
theorem dX7_swap_41 : decode cX7_swap 41 = .ok (.if_icmp .ge 117, 3) := by decide +kernel
theorem dX7_swap_44 : decode cX7_swap 44 = .ok (.iload_n 3, 1) := by decide +kernel
theorem dX7_swap_45 : decode cX7_swap 45 = .ok (.iconst 1, 1) := by decide +kernel
theorem dX7_swap_46 : decode cX7_swap 46 = .ok (.iadd, 1) := by decide +kernel
theorem dX7_swap_47 : decode cX7_swap 47 = .ok (.istore 4, 2) := by decide +kernel
theorem dX7_swap_49 : decode cX7_swap 49 = .ok (.iload 4, 2) := by decide +kernel
theorem dX7_swap_51 : decode cX7_swap 51 = .ok (.aload_n 0, 1) := by decide +kernel
theorem dX7_swap_52 : decode cX7_swap 52 = .ok (.getfield 23, 3) := by decide +kernel
theorem dX7_swap_55 : decode cX7_swap 55 = .ok (.getfield 123, 3) := by decide +kernel
theorem dX7_swap_58 : decode cX7_swap 58 = .ok (.if_icmp .ge 94, 3) := by decide +kernel
theorem dX7_swap_61 : decode cX7_swap 61 = .ok (.aload_n 0, 1) := by decide +kernel
theorem dX7_swap_62 : decode cX7_swap 62 = .ok (.getfield 27, 3) := by decide +kernel
theorem dX7_swap_65 : decode cX7_swap 65 = .ok (.aload_n 0, 1) := by decide +kernel
theorem dX7_swap_66 : decode cX7_swap 66 = .ok (.getfield 23, 3) := by decide +kernel
theorem dX7_swap_69 : decode cX7_swap 69 = .ok (.invokevirtual 169, 3) := by decide +kernel
theorem dX7_swap_72 : decode cX7_swap 72 = .ok (.aload_n 0, 1) := by decide +kernel
theorem dX7_swap_73 : decode cX7_swap 73 = .ok (.getfield 27, 3) := by decide +kernel
theorem dX7_swap_76 : decode cX7_swap 76 = .ok (.getfield 126, 3) := by decide +kernel
theorem dX7_swap_79 : decode cX7_swap 79 = .ok (.iload_n 3, 1) := by decide +kernel
theorem dX7_swap_80 : decode cX7_swap 80 = .ok (.aload_n 0, 1) := by decide +kernel
theorem dX7_swap_81 : decode cX7_swap 81 = .ok (.getfield 23, 3) := by decide +kernel
theorem dX7_swap_84 : decode cX7_swap 84 = .ok (.getfield 126, 3) := by decide +kernel
theorem dX7_swap_87 : decode cX7_swap 87 = .ok (.iload 4, 2) := by decide +kernel
theorem dX7_swap_89 : decode cX7_swap 89 = .ok (.iaload, 1) := by decide +kernel
theorem dX7_swap_90 : decode cX7_swap 90 = .ok (.iastore, 1) := by decide +kernel
theorem dX7_swap_91 : decode cX7_swap 91 = .ok (.aload_n 0, 1) := by decide +kernel
theorem dX7_swap_92 : decode cX7_swap 92 = .ok (.getfield 27, 3) := by decide +kernel
theorem dX7_swap_95 : decode cX7_swap 95 = .ok (.getfield 126, 3) := by decide +kernel
theorem dX7_swap_98 : decode cX7_swap 98 = .ok (.iload 4, 2) := by decide +kernel
theorem dX7_swap_100 : decode cX7_swap 100 = .ok (.aload_n 0, 1) := by decide +kernel
theorem dX7_swap_101 : decode cX7_swap 101 = .ok (.getfield 23, 3) := by decide +kernel
theorem dX7_swap_104 : decode cX7_swap 104 = .ok (.getfield 126, 3) := by decide +kernel
theorem dX7_swap_107 : decode cX7_swap 107 = .ok (.iload_n 3, 1) := by decide +kernel
theorem dX7_swap_108 : decode cX7_swap 108 = .ok (.iaload, 1) := by decide +kernel
theorem dX7_swap_109 : decode cX7_swap 109 = .ok (.iastore, 1) := by decide +kernel
theorem dX7_swap_110 : decode cX7_swap 110 = .ok (.aload_n 0, 1) := by decide +kernel
theorem dX7_swap_111 : decode cX7_swap 111 = .ok (.getfield 27, 3) := by decide +kernel
theorem dX7_swap_114 : decode cX7_swap 114 = .ok (.bipush 40, 2) := by decide +kernel
theorem dX7_swap_116 : decode cX7_swap 116 = .ok (.invokevirtual 165, 3) := by decide +kernel
theorem dX7_swap_119 : decode cX7_swap 119 = .ok (.aload_n 0, 1) := by decide +kernel
theorem dX7_swap_120 : decode cX7_swap 120 = .ok (.getfield 27, 3) := by decide +kernel
theorem dX7_swap_123 : decode cX7_swap 123 = .ok (.getfield 117, 3) := by decide +kernel
theorem dX7_swap_126 : decode cX7_swap 126 = .ok (.iload_n 2, 1) := by decide +kernel
theorem dX7_swap_127 : decode cX7_swap 127 = .ok (.if_icmp .le 19, 3) := by decide +kernel
theorem dX7_swap_130 : decode cX7_swap 130 = .ok (.aload_n 0, 1) := by decide +kernel
theorem dX7_swap_131 : decode cX7_swap 131 = .ok (.getfield 27, 3) := by decide +kernel
theorem dX7_swap_134 : decode cX7_swap 134 = .ok (.getfield 117, 3) := by decide +kernel
theorem dX7_swap_137 : decode cX7_swap 137 = .ok (.istore_n 2, 1) := by decide +kernel
theorem dX7_swap_138 : decode cX7_swap 138 = .ok (.bipush 10, 2) := by decide +kernel
theorem dX7_swap_140 : decode cX7_swap 140 = .ok (.iload_n 3, 1) := by decide +kernel
theorem dX7_swap_141 : decode cX7_swap 141 = .ok (.imul, 1) := by decide +kernel
theorem dX7_swap_142 : decode cX7_swap 142 = .ok (.iload 4, 2) := by decide +kernel
theorem dX7_swap_144 : decode cX7_swap 144 = .ok (.iadd, 1) := by decide +kernel
theorem dX7_swap_145 : decode cX7_swap 145 = .ok (.istore_n 1, 1) := by decide +kernel
theorem dX7_swap_146 : decode cX7_swap 146 = .ok (.iinc 4 1, 3) := by decide +kernel
theorem dX7_swap_149 : decode cX7_swap 149 = .ok (.goto (-100), 3) := by decide +kernel
theorem dX7_swap_152 : decode cX7_swap 152 = .ok (.iinc 3 1, 3) := by decide +kernel
theorem dX7_swap_155 : decode cX7_swap 155 = .ok (.goto (-122), 3) := by decide +kernel
theorem dX7_swap_158 : decode cX7_swap 158 = .ok (.iload_n 1, 1) := by decide +kernel
theorem dX7_swap_159 : decode cX7_swap 159 = .ok (.ireturn, 1) := by decide +kernel
theorem dX7_enough_0 : decode cX7_enough 0 = .ok (.iload_n 1, 1) := by decide +kernel
theorem dX7_enough_1 : decode cX7_enough 1 = .ok (.iconst 1, 1) := by decide +kernel
theorem dX7_enough_2 : decode cX7_enough 2 = .ok (.bipush 20, 2) := by decide +kernel
theorem dX7_enough_4 : decode cX7_enough 4 = .ok (.invokestatic 58, 3) := by decide +kernel
theorem dX7_enough_7 : decode cX7_enough 7 = .ok (.ifCond .ne 6, 3) := by decide +kernel
theorem dX7_enough_10 : decode cX7_enough 10 = .ok (.bipush (-2), 2) := by decide +kernel
theorem dX7_enough_12 : decode cX7_enough 12 = .ok (.ireturn, 1) := by decide +kernel
theorem dX7_enough_13 : decode cX7_enough 13 = .ok (.iconst 0, 1) := by decide +kernel
theorem dX7_enough_14 : decode cX7_enough 14 = .ok (.istore_n 2, 1) := by decide +kernel
theorem dX7_enough_15 : decode cX7_enough 15 = .ok (.iload_n 2, 1) := by decide +kernel
theorem dX7_enough_16 : decode cX7_enough 16 = .ok (.bipush 40, 2) := by decide +kernel
theorem dX7_enough_18 : decode cX7_enough 18 = .ok (.if_icmp .gt 48, 3) := by decide +kernel
theorem dX7_enough_21 : decode cX7_enough 21 = .ok (.aload_n 0, 1) := by decide +kernel
theorem dX7_enough_22 : decode cX7_enough 22 = .ok (.getfield 27, 3) := by decide +kernel
theorem dX7_enough_25 : decode cX7_enough 25 = .ok (.aload_n 0, 1) := by decide +kernel
theorem dX7_enough_26 : decode cX7_enough 26 = .ok (.getfield 23, 3) := by decide +kernel
theorem dX7_enough_29 : decode cX7_enough 29 = .ok (.invokevirtual 169, 3) := by decide +kernel
theorem dX7_enough_32 : decode cX7_enough 32 = .ok (.aload_n 0, 1) := by decide +kernel
theorem dX7_enough_33 : decode cX7_enough 33 = .ok (.getfield 27, 3) := by decide +kernel
theorem dX7_enough_36 : decode cX7_enough 36 = .ok (.iload_n 2, 1) := by decide +kernel
theorem dX7_enough_37 : decode cX7_enough 37 = .ok (.putfield 153, 3) := by decide +kernel
theorem dX7_enough_40 : decode cX7_enough 40 = .ok (.aload_n 0, 1) := by decide +kernel
theorem dX7_enough_41 : decode cX7_enough 41 = .ok (.getfield 27, 3) := by decide +kernel
theorem dX7_enough_44 : decode cX7_enough 44 = .ok (.iload_n 1, 1) := by decide +kernel
theorem dX7_enough_45 : decode cX7_enough 45 = .ok (.invokevirtual 165, 3) := by decide +kernel
theorem dX7_enough_48 : decode cX7_enough 48 = .ok (.aload_n 0, 1) := by decide +kernel
theorem dX7_enough_49 : decode cX7_enough 49 = .ok (.getfield 27, 3) := by decide +kernel
theorem dX7_enough_52 : decode cX7_enough 52 = .ok (.invokevirtual 162, 3) := by decide +kernel
theorem dX7_enough_55 : decode cX7_enough 55 = .ok (.ifCond .ne 5, 3) := by decide +kernel
theorem dX7_enough_58 : decode cX7_enough 58 = .ok (.iload_n 2, 1) := by decide +kernel
theorem dX7_enough_59 : decode cX7_enough 59 = .ok (.ireturn, 1) := by decide +kernel
theorem dX7_enough_60 : decode cX7_enough 60 = .ok (.iinc 2 1, 3) := by decide +kernel
theorem dX7_enough_63 : decode cX7_enough 63 = .ok (.goto (-48), 3) := by decide +kernel
theorem dX7_enough_66 : decode cX7_enough 66 = .ok (.bipush (-5), 2) := by decide +kernel
theorem dX7_enough_68 : decode cX7_enough 68 = .ok (.ireturn, 1) := by decide +kernel
theorem dX7_bears_0 : decode cX7_bears 0 = .ok (.iload_n 1, 1) := by decide +kernel
theorem dX7_bears_1 : decode cX7_bears 1 = .ok (.iconst 1, 1) := by decide +kernel
theorem dX7_bears_2 : decode cX7_bears 2 = .ok (.bipush 20, 2) := by decide +kernel
theorem dX7_bears_4 : decode cX7_bears 4 = .ok (.invokestatic 58, 3) := by decide +kernel
theorem dX7_bears_7 : decode cX7_bears 7 = .ok (.ifCond .ne 6, 3) := by decide +kernel
theorem dX7_bears_10 : decode cX7_bears 10 = .ok (.bipush (-2), 2) := by decide +kernel
theorem dX7_bears_12 : decode cX7_bears 12 = .ok (.ireturn, 1) := by decide +kernel
theorem dX7_bears_13 : decode cX7_bears 13 = .ok (.bipush 40, 2) := by decide +kernel
theorem dX7_bears_15 : decode cX7_bears 15 = .ok (.istore_n 2, 1) := by decide +kernel
theorem dX7_bears_16 : decode cX7_bears 16 = .ok (.iload_n 2, 1) := by decide +kernel
theorem dX7_bears_17 : decode cX7_bears 17 = .ok (.ifCond .lt 48, 3) := by decide +kernel
theorem dX7_bears_20 : decode cX7_bears 20 = .ok (.aload_n 0, 1) := by decide +kernel
theorem dX7_bears_21 : decode cX7_bears 21 = .ok (.getfield 27, 3) := by decide +kernel
theorem dX7_bears_24 : decode cX7_bears 24 = .ok (.aload_n 0, 1) := by decide +kernel
theorem dX7_bears_25 : decode cX7_bears 25 = .ok (.getfield 23, 3) := by decide +kernel
theorem dX7_bears_28 : decode cX7_bears 28 = .ok (.invokevirtual 169, 3) := by decide +kernel
theorem dX7_bears_31 : decode cX7_bears 31 = .ok (.aload_n 0, 1) := by decide +kernel
theorem dX7_bears_32 : decode cX7_bears 32 = .ok (.getfield 27, 3) := by decide +kernel
theorem dX7_bears_35 : decode cX7_bears 35 = .ok (.iload_n 2, 1) := by decide +kernel
theorem dX7_bears_36 : decode cX7_bears 36 = .ok (.putfield 150, 3) := by decide +kernel
theorem dX7_bears_39 : decode cX7_bears 39 = .ok (.aload_n 0, 1) := by decide +kernel
theorem dX7_bears_40 : decode cX7_bears 40 = .ok (.getfield 27, 3) := by decide +kernel
theorem dX7_bears_43 : decode cX7_bears 43 = .ok (.iload_n 1, 1) := by decide +kernel
theorem dX7_bears_44 : decode cX7_bears 44 = .ok (.invokevirtual 165, 3) := by decide +kernel
theorem dX7_bears_47 : decode cX7_bears 47 = .ok (.aload_n 0, 1) := by decide +kernel
theorem dX7_bears_48 : decode cX7_bears 48 = .ok (.getfield 27, 3) := by decide +kernel
theorem dX7_bears_51 : decode cX7_bears 51 = .ok (.invokevirtual 162, 3) := by decide +kernel
theorem dX7_bears_54 : decode cX7_bears 54 = .ok (.ifCond .ne 5, 3) := by decide +kernel
theorem dX7_bears_57 : decode cX7_bears 57 = .ok (.iload_n 2, 1) := by decide +kernel
theorem dX7_bears_58 : decode cX7_bears 58 = .ok (.ireturn, 1) := by decide +kernel
theorem dX7_bears_59 : decode cX7_bears 59 = .ok (.iinc 2 (-1), 3) := by decide +kernel
theorem dX7_bears_62 : decode cX7_bears 62 = .ok (.goto (-46), 3) := by decide +kernel
theorem dX7_bears_65 : decode cX7_bears 65 = .ok (.bipush (-5), 2) := by decide +kernel
theorem dX7_bears_67 : decode cX7_bears 67 = .ok (.ireturn, 1) := by decide +kernel
theorem dX7_whose_0 : decode cX7_whose 0 = .ok (.iload_n 1, 1) := by decide +kernel
theorem dX7_whose_1 : decode cX7_whose 1 = .ok (.iconst 1, 1) := by decide +kernel
theorem dX7_whose_2 : decode cX7_whose 2 = .ok (.bipush 60, 2) := by decide +kernel
theorem dX7_whose_4 : decode cX7_whose 4 = .ok (.invokestatic 58, 3) := by decide +kernel
theorem dX7_whose_7 : decode cX7_whose 7 = .ok (.ifCond .ne 6, 3) := by decide +kernel
theorem dX7_whose_10 : decode cX7_whose 10 = .ok (.bipush (-2), 2) := by decide +kernel
theorem dX7_whose_12 : decode cX7_whose 12 = .ok (.ireturn, 1) := by decide +kernel
theorem dX7_whose_13 : decode cX7_whose 13 = .ok (.aload_n 0, 1) := by decide +kernel
theorem dX7_whose_14 : decode cX7_whose 14 = .ok (.getfield 27, 3) := by decide +kernel
theorem dX7_whose_17 : decode cX7_whose 17 = .ok (.aload_n 0, 1) := by decide +kernel
theorem dX7_whose_18 : decode cX7_whose 18 = .ok (.getfield 23, 3) := by decide +kernel
theorem dX7_whose_21 : decode cX7_whose 21 = .ok (.invokevirtual 169, 3) := by decide +kernel
theorem dX7_whose_24 : decode cX7_whose 24 = .ok (.aload_n 0, 1) := by decide +kernel
theorem dX7_whose_25 : decode cX7_whose 25 = .ok (.getfield 27, 3) := by decide +kernel
theorem dX7_whose_28 : decode cX7_whose 28 = .ok (.iload_n 1, 1) := by decide +kernel
theorem dX7_whose_29 : decode cX7_whose 29 = .ok (.invokevirtual 165, 3) := by decide +kernel
theorem dX7_whose_32 : decode cX7_whose 32 = .ok (.aload_n 0, 1) := by decide +kernel
theorem dX7_whose_33 : decode cX7_whose 33 = .ok (.getfield 27, 3) := by decide +kernel
theorem dX7_whose_36 : decode cX7_whose 36 = .ok (.invokevirtual 162, 3) := by decide +kernel
theorem dX7_whose_39 : decode cX7_whose 39 = .ok (.ifCond .eq 5, 3) := by decide +kernel
theorem dX7_whose_42 : decode cX7_whose 42 = .ok (.iconst 0, 1) := by decide +kernel
theorem dX7_whose_43 : decode cX7_whose 43 = .ok (.ireturn, 1) := by decide +kernel
theorem dX7_whose_44 : decode cX7_whose 44 = .ok (.iconst 0, 1) := by decide +kernel
theorem dX7_whose_45 : decode cX7_whose 45 = .ok (.istore_n 2, 1) := by decide +kernel
theorem dX7_whose_46 : decode cX7_whose 46 = .ok (.iconst 0, 1) := by decide +kernel
theorem dX7_whose_47 : decode cX7_whose 47 = .ok (.istore_n 3, 1) := by decide +kernel
theorem dX7_whose_48 : decode cX7_whose 48 = .ok (.iload_n 3, 1) := by decide +kernel
theorem dX7_whose_49 : decode cX7_whose 49 = .ok (.aload_n 0, 1) := by decide +kernel
theorem dX7_whose_50 : decode cX7_whose 50 = .ok (.getfield 23, 3) := by decide +kernel
theorem dX7_whose_53 : decode cX7_whose 53 = .ok (.getfield 62, 3) := by decide +kernel
theorem dX7_whose_56 : decode cX7_whose 56 = .ok (.getfield 66, 3) := by decide +kernel
theorem dX7_whose_59 : decode cX7_whose 59 = .ok (.if_icmp .ge 38, 3) := by decide +kernel
theorem dX7_whose_62 : decode cX7_whose 62 = .ok (.aload_n 0, 1) := by decide +kernel
theorem dX7_whose_63 : decode cX7_whose 63 = .ok (.getfield 23, 3) := by decide +kernel
theorem dX7_whose_66 : decode cX7_whose 66 = .ok (.getfield 62, 3) := by decide +kernel
theorem dX7_whose_69 : decode cX7_whose 69 = .ok (.iload_n 3, 1) := by decide +kernel
theorem dX7_whose_70 : decode cX7_whose 70 = .ok (.invokevirtual 93, 3) := by decide +kernel
theorem dX7_whose_73 : decode cX7_whose 73 = .ok (.ifCond .ne 18, 3) := by decide +kernel
theorem dX7_whose_76 : decode cX7_whose 76 = .ok (.aload_n 0, 1) := by decide +kernel
theorem dX7_whose_77 : decode cX7_whose 77 = .ok (.iload_n 3, 1) := by decide +kernel
theorem dX7_whose_78 : decode cX7_whose 78 = .ok (.iload_n 1, 1) := by decide +kernel
theorem dX7_whose_79 : decode cX7_whose 79 = .ok (.invokevirtual 176, 3) := by decide +kernel
theorem dX7_whose_82 : decode cX7_whose 82 = .ok (.ifCond .eq 9, 3) := by decide +kernel
theorem dX7_whose_85 : decode cX7_whose 85 = .ok (.iload_n 2, 1) := by decide +kernel
theorem dX7_whose_86 : decode cX7_whose 86 = .ok (.iconst 1, 1) := by decide +kernel
theorem dX7_whose_87 : decode cX7_whose 87 = .ok (.iload_n 3, 1) := by decide +kernel
theorem dX7_whose_88 : decode cX7_whose 88 = .ok (.ishl, 1) := by decide +kernel
theorem dX7_whose_89 : decode cX7_whose 89 = .ok (.ior, 1) := by decide +kernel
theorem dX7_whose_90 : decode cX7_whose 90 = .ok (.istore_n 2, 1) := by decide +kernel
theorem dX7_whose_91 : decode cX7_whose 91 = .ok (.iinc 3 1, 3) := by decide +kernel
theorem dX7_whose_94 : decode cX7_whose 94 = .ok (.goto (-46), 3) := by decide +kernel
theorem dX7_whose_97 : decode cX7_whose 97 = .ok (.iload_n 2, 1) := by decide +kernel
theorem dX7_whose_98 : decode cX7_whose 98 = .ok (.ireturn, 1) := by decide +kernel
theorem dX7_see_0 : decode cX7_see 0 = .ok (.iload_n 1, 1) := by decide +kernel
theorem dX7_see_1 : decode cX7_see 1 = .ok (.iconst (-1), 1) := by decide +kernel
theorem dX7_see_2 : decode cX7_see 2 = .ok (.if_icmp .ne 15, 3) := by decide +kernel
theorem dX7_see_5 : decode cX7_see 5 = .ok (.aload_n 0, 1) := by decide +kernel
theorem dX7_see_6 : decode cX7_see 6 = .ok (.getfield 23, 3) := by decide +kernel
theorem dX7_see_9 : decode cX7_see 9 = .ok (.getfield 180, 3) := by decide +kernel
theorem dX7_see_12 : decode cX7_see 12 = .ok (.invokevirtual 184, 3) := by decide +kernel
theorem dX7_see_15 : decode cX7_see 15 = .ok (.iconst 0, 1) := by decide +kernel
theorem dX7_see_16 : decode cX7_see 16 = .ok (.ireturn, 1) := by decide +kernel
theorem dX7_see_17 : decode cX7_see 17 = .ok (.iload_n 1, 1) := by decide +kernel
theorem dX7_see_18 : decode cX7_see 18 = .ok (.iconst 0, 1) := by decide +kernel
theorem dX7_see_19 : decode cX7_see 19 = .ok (.sipush 999, 3) := by decide +kernel
theorem dX7_see_22 : decode cX7_see 22 = .ok (.invokestatic 58, 3) := by decide +kernel
theorem dX7_see_25 : decode cX7_see 25 = .ok (.ifCond .eq 13, 3) := by decide +kernel
theorem dX7_see_28 : decode cX7_see 28 = .ok (.iload_n 2, 1) := by decide +kernel
theorem dX7_see_29 : decode cX7_see 29 = .ok (.iconst 0, 1) := by decide +kernel
theorem dX7_see_30 : decode cX7_see 30 = .ok (.bipush 20, 2) := by decide +kernel
theorem dX7_see_32 : decode cX7_see 32 = .ok (.invokestatic 58, 3) := by decide +kernel
theorem dX7_see_35 : decode cX7_see 35 = .ok (.ifCond .ne 6, 3) := by decide +kernel
theorem dX7_see_38 : decode cX7_see 38 = .ok (.bipush (-2), 2) := by decide +kernel
theorem dX7_see_40 : decode cX7_see 40 = .ok (.ireturn, 1) := by decide +kernel
theorem dX7_see_41 : decode cX7_see 41 = .ok (.aload_n 0, 1) := by decide +kernel
theorem dX7_see_42 : decode cX7_see 42 = .ok (.getfield 23, 3) := by decide +kernel
theorem dX7_see_45 : decode cX7_see 45 = .ok (.getfield 180, 3) := by decide +kernel
theorem dX7_see_48 : decode cX7_see 48 = .ok (.invokevirtual 189, 3) := by decide +kernel
theorem dX7_see_51 : decode cX7_see 51 = .ok (.ifCond .eq 8, 3) := by decide +kernel
theorem dX7_see_54 : decode cX7_see 54 = .ok (.bipush (-4), 2) := by decide +kernel
theorem dX7_see_56 : decode cX7_see 56 = .ok (.goto 15, 3) := by decide +kernel
theorem dX7_see_59 : decode cX7_see 59 = .ok (.aload_n 0, 1) := by decide +kernel
theorem dX7_see_60 : decode cX7_see 60 = .ok (.getfield 23, 3) := by decide +kernel
theorem dX7_see_63 : decode cX7_see 63 = .ok (.getfield 180, 3) := by decide +kernel
theorem dX7_see_66 : decode cX7_see 66 = .ok (.iload_n 1, 1) := by decide +kernel
theorem dX7_see_67 : decode cX7_see 67 = .ok (.iload_n 2, 1) := by decide +kernel
theorem dX7_see_68 : decode cX7_see 68 = .ok (.invokevirtual 190, 3) := by decide +kernel
theorem dX7_see_71 : decode cX7_see 71 = .ok (.ireturn, 1) := by decide +kernel
theorem dX7_was_0 : decode cX7_was 0 = .ok (.aload_n 0, 1) := by decide +kernel
theorem dX7_was_1 : decode cX7_was 1 = .ok (.iload_n 1, 1) := by decide +kernel
theorem dX7_was_2 : decode cX7_was 2 = .ok (.iload_n 2, 1) := by decide +kernel
theorem dX7_was_3 : decode cX7_was 3 = .ok (.iconst 1, 1) := by decide +kernel
theorem dX7_was_4 : decode cX7_was 4 = .ok (.invokevirtual 192, 3) := by decide +kernel
theorem dX7_was_7 : decode cX7_was 7 = .ok (.ireturn, 1) := by decide +kernel
theorem dX7_can_0 : decode cX7_can 0 = .ok (.aload_n 0, 1) := by decide +kernel
theorem dX7_can_1 : decode cX7_can 1 = .ok (.iload_n 1, 1) := by decide +kernel
theorem dX7_can_2 : decode cX7_can 2 = .ok (.iload_n 2, 1) := by decide +kernel
theorem dX7_can_3 : decode cX7_can 3 = .ok (.iconst 0, 1) := by decide +kernel
theorem dX7_can_4 : decode cX7_can 4 = .ok (.invokevirtual 192, 3) := by decide +kernel
theorem dX7_can_7 : decode cX7_can 7 = .ok (.ireturn, 1) := by decide +kernel
theorem dX7_odds_0 : decode cX7_odds 0 = .ok (.aload_n 0, 1) := by decide +kernel
theorem dX7_odds_1 : decode cX7_odds 1 = .ok (.getfield 23, 3) := by decide +kernel
theorem dX7_odds_4 : decode cX7_odds 4 = .ok (.getfield 62, 3) := by decide +kernel
theorem dX7_odds_7 : decode cX7_odds 7 = .ok (.getfield 66, 3) := by decide +kernel
theorem dX7_odds_10 : decode cX7_odds 10 = .ok (.istore_n 3, 1) := by decide +kernel
theorem dX7_odds_11 : decode cX7_odds 11 = .ok (.iload_n 3, 1) := by decide +kernel
theorem dX7_odds_12 : decode cX7_odds 12 = .ok (.ifCond .eq 13, 3) := by decide +kernel
theorem dX7_odds_15 : decode cX7_odds 15 = .ok (.iload_n 1, 1) := by decide +kernel
theorem dX7_odds_16 : decode cX7_odds 16 = .ok (.iconst 0, 1) := by decide +kernel
theorem dX7_odds_17 : decode cX7_odds 17 = .ok (.bipush 60, 2) := by decide +kernel
theorem dX7_odds_19 : decode cX7_odds 19 = .ok (.invokestatic 58, 3) := by decide +kernel
theorem dX7_odds_22 : decode cX7_odds 22 = .ok (.ifCond .ne 7, 3) := by decide +kernel
theorem dX7_odds_25 : decode cX7_odds 25 = .ok (.ldc2_w 196, 3) := by decide +kernel
theorem dX7_odds_28 : decode cX7_odds 28 = .ok (.lreturn, 1) := by decide +kernel
theorem dX7_odds_29 : decode cX7_odds 29 = .ok (.iconst 0, 1) := by decide +kernel
theorem dX7_odds_30 : decode cX7_odds 30 = .ok (.istore 4, 2) := by decide +kernel
theorem dX7_odds_32 : decode cX7_odds 32 = .ok (.iconst 0, 1) := by decide +kernel
theorem dX7_odds_33 : decode cX7_odds 33 = .ok (.istore 5, 2) := by decide +kernel
theorem dX7_odds_35 : decode cX7_odds 35 = .ok (.iload 5, 2) := by decide +kernel
theorem dX7_odds_37 : decode cX7_odds 37 = .ok (.iload_n 3, 1) := by decide +kernel
theorem dX7_odds_38 : decode cX7_odds 38 = .ok (.if_icmp .ge 22, 3) := by decide +kernel
theorem dX7_odds_41 : decode cX7_odds 41 = .ok (.aload_n 0, 1) := by decide +kernel
theorem dX7_odds_42 : decode cX7_odds 42 = .ok (.iload 5, 2) := by decide +kernel
theorem dX7_odds_44 : decode cX7_odds 44 = .ok (.iload_n 1, 1) := by decide +kernel
theorem dX7_odds_45 : decode cX7_odds 45 = .ok (.invokevirtual 176, 3) := by decide +kernel
theorem dX7_odds_48 : decode cX7_odds 48 = .ok (.ifCond .ne 6, 3) := by decide +kernel
theorem dX7_odds_51 : decode cX7_odds 51 = .ok (.iinc 4 1, 3) := by decide +kernel
theorem dX7_odds_54 : decode cX7_odds 54 = .ok (.iinc 5 1, 3) := by decide +kernel
theorem dX7_odds_57 : decode cX7_odds 57 = .ok (.goto (-22), 3) := by decide +kernel
theorem dX7_odds_60 : decode cX7_odds 60 = .ok (.iload 4, 2) := by decide +kernel
theorem dX7_odds_62 : decode cX7_odds 62 = .ok (.iload_n 3, 1) := by decide +kernel
theorem dX7_odds_63 : decode cX7_odds 63 = .ok (.iload_n 2, 1) := by decide +kernel
theorem dX7_odds_64 : decode cX7_odds 64 = .ok (.invokestatic 198, 3) := by decide +kernel
theorem dX7_odds_67 : decode cX7_odds 67 = .ok (.lreturn, 1) := by decide +kernel
theorem dX7_mean_0 : decode cX7_mean 0 = .ok (.aload_n 0, 1) := by decide +kernel
theorem dX7_mean_1 : decode cX7_mean 1 = .ok (.getfield 23, 3) := by decide +kernel
theorem dX7_mean_4 : decode cX7_mean 4 = .ok (.getfield 62, 3) := by decide +kernel
theorem dX7_mean_7 : decode cX7_mean 7 = .ok (.getfield 66, 3) := by decide +kernel
theorem dX7_mean_10 : decode cX7_mean 10 = .ok (.istore_n 3, 1) := by decide +kernel
theorem dX7_mean_11 : decode cX7_mean 11 = .ok (.iload_n 3, 1) := by decide +kernel
theorem dX7_mean_12 : decode cX7_mean 12 = .ok (.ifCond .eq 13, 3) := by decide +kernel
theorem dX7_mean_15 : decode cX7_mean 15 = .ok (.iload_n 1, 1) := by decide +kernel
theorem dX7_mean_16 : decode cX7_mean 16 = .ok (.iconst 0, 1) := by decide +kernel
theorem dX7_mean_17 : decode cX7_mean 17 = .ok (.bipush 60, 2) := by decide +kernel
theorem dX7_mean_19 : decode cX7_mean 19 = .ok (.invokestatic 58, 3) := by decide +kernel
theorem dX7_mean_22 : decode cX7_mean 22 = .ok (.ifCond .ne 7, 3) := by decide +kernel
theorem dX7_mean_25 : decode cX7_mean 25 = .ok (.ldc2_w 196, 3) := by decide +kernel
theorem dX7_mean_28 : decode cX7_mean 28 = .ok (.lreturn, 1) := by decide +kernel
theorem dX7_mean_29 : decode cX7_mean 29 = .ok (.aload_n 0, 1) := by decide +kernel
theorem dX7_mean_30 : decode cX7_mean 30 = .ok (.getfield 27, 3) := by decide +kernel
theorem dX7_mean_33 : decode cX7_mean 33 = .ok (.aload_n 0, 1) := by decide +kernel
theorem dX7_mean_34 : decode cX7_mean 34 = .ok (.getfield 23, 3) := by decide +kernel
theorem dX7_mean_37 : decode cX7_mean 37 = .ok (.invokevirtual 169, 3) := by decide +kernel
theorem dX7_mean_40 : decode cX7_mean 40 = .ok (.aload_n 0, 1) := by decide +kernel
theorem dX7_mean_41 : decode cX7_mean 41 = .ok (.getfield 27, 3) := by decide +kernel
theorem dX7_mean_44 : decode cX7_mean 44 = .ok (.iload_n 1, 1) := by decide +kernel
theorem dX7_mean_45 : decode cX7_mean 45 = .ok (.invokevirtual 165, 3) := by decide +kernel
theorem dX7_mean_48 : decode cX7_mean 48 = .ok (.iconst 0, 1) := by decide +kernel
theorem dX7_mean_49 : decode cX7_mean 49 = .ok (.istore 4, 2) := by decide +kernel
theorem dX7_mean_51 : decode cX7_mean 51 = .ok (.iconst 0, 1) := by decide +kernel
theorem dX7_mean_52 : decode cX7_mean 52 = .ok (.istore 5, 2) := by decide +kernel
theorem dX7_mean_54 : decode cX7_mean 54 = .ok (.iload 5, 2) := by decide +kernel
theorem dX7_mean_56 : decode cX7_mean 56 = .ok (.iload_n 3, 1) := by decide +kernel
theorem dX7_mean_57 : decode cX7_mean 57 = .ok (.if_icmp .ge 27, 3) := by decide +kernel
theorem dX7_mean_60 : decode cX7_mean 60 = .ok (.iload 4, 2) := by decide +kernel
theorem dX7_mean_62 : decode cX7_mean 62 = .ok (.aload_n 0, 1) := by decide +kernel
theorem dX7_mean_63 : decode cX7_mean 63 = .ok (.getfield 27, 3) := by decide +kernel
theorem dX7_mean_66 : decode cX7_mean 66 = .ok (.getfield 62, 3) := by decide +kernel
theorem dX7_mean_69 : decode cX7_mean 69 = .ok (.getfield 87, 3) := by decide +kernel
theorem dX7_mean_72 : decode cX7_mean 72 = .ok (.iload 5, 2) := by decide +kernel
theorem dX7_mean_74 : decode cX7_mean 74 = .ok (.iaload, 1) := by decide +kernel
theorem dX7_mean_75 : decode cX7_mean 75 = .ok (.iadd, 1) := by decide +kernel
theorem dX7_mean_76 : decode cX7_mean 76 = .ok (.istore 4, 2) := by decide +kernel
theorem dX7_mean_78 : decode cX7_mean 78 = .ok (.iinc 5 1, 3) := by decide +kernel
theorem dX7_mean_81 : decode cX7_mean 81 = .ok (.goto (-27), 3) := by decide +kernel
theorem dX7_mean_84 : decode cX7_mean 84 = .ok (.iload 4, 2) := by decide +kernel
theorem dX7_mean_86 : decode cX7_mean 86 = .ok (.iload_n 3, 1) := by decide +kernel
theorem dX7_mean_87 : decode cX7_mean 87 = .ok (.iload_n 2, 1) := by decide +kernel
theorem dX7_mean_88 : decode cX7_mean 88 = .ok (.invokestatic 198, 3) := by decide +kernel
theorem dX7_mean_91 : decode cX7_mean 91 = .ok (.lreturn, 1) := by decide +kernel
theorem dX7_winter_0 : decode cX7_winter 0 = .ok (.iload_n 1, 1) := by decide +kernel
theorem dX7_winter_1 : decode cX7_winter 1 = .ok (.iconst (-1), 1) := by decide +kernel
theorem dX7_winter_2 : decode cX7_winter 2 = .ok (.if_icmp .ne 15, 3) := by decide +kernel
theorem dX7_winter_5 : decode cX7_winter 5 = .ok (.aload_n 0, 1) := by decide +kernel
theorem dX7_winter_6 : decode cX7_winter 6 = .ok (.getfield 23, 3) := by decide +kernel
theorem dX7_winter_9 : decode cX7_winter 9 = .ok (.getfield 202, 3) := by decide +kernel
theorem dX7_winter_12 : decode cX7_winter 12 = .ok (.invokevirtual 184, 3) := by decide +kernel
theorem dX7_winter_15 : decode cX7_winter 15 = .ok (.iconst 0, 1) := by decide +kernel
theorem dX7_winter_16 : decode cX7_winter 16 = .ok (.ireturn, 1) := by decide +kernel
theorem dX7_winter_17 : decode cX7_winter 17 = .ok (.iload_n 1, 1) := by decide +kernel
theorem dX7_winter_18 : decode cX7_winter 18 = .ok (.iconst 0, 1) := by decide +kernel
theorem dX7_winter_19 : decode cX7_winter 19 = .ok (.iconst 3, 1) := by decide +kernel
theorem dX7_winter_20 : decode cX7_winter 20 = .ok (.invokestatic 58, 3) := by decide +kernel
theorem dX7_winter_23 : decode cX7_winter 23 = .ok (.ifCond .eq 16, 3) := by decide +kernel
theorem dX7_winter_26 : decode cX7_winter 26 = .ok (.iload_n 1, 1) := by decide +kernel
theorem dX7_winter_27 : decode cX7_winter 27 = .ok (.iconst 1, 1) := by decide +kernel
theorem dX7_winter_28 : decode cX7_winter 28 = .ok (.if_icmp .ne 13, 3) := by decide +kernel
theorem dX7_winter_31 : decode cX7_winter 31 = .ok (.aload_n 0, 1) := by decide +kernel
theorem dX7_winter_32 : decode cX7_winter 32 = .ok (.iload_n 2, 1) := by decide +kernel
theorem dX7_winter_33 : decode cX7_winter 33 = .ok (.invokevirtual 76, 3) := by decide +kernel
theorem dX7_winter_36 : decode cX7_winter 36 = .ok (.ifCond .ne 5, 3) := by decide +kernel
theorem dX7_winter_39 : decode cX7_winter 39 = .ok (.iconst (-1), 1) := by decide +kernel
theorem dX7_winter_40 : decode cX7_winter 40 = .ok (.ireturn, 1) := by decide +kernel
theorem dX7_winter_41 : decode cX7_winter 41 = .ok (.aload_n 0, 1) := by decide +kernel
theorem dX7_winter_42 : decode cX7_winter 42 = .ok (.getfield 23, 3) := by decide +kernel
theorem dX7_winter_45 : decode cX7_winter 45 = .ok (.getfield 202, 3) := by decide +kernel
theorem dX7_winter_48 : decode cX7_winter 48 = .ok (.invokevirtual 189, 3) := by decide +kernel
theorem dX7_winter_51 : decode cX7_winter 51 = .ok (.ifCond .eq 8, 3) := by decide +kernel
theorem dX7_winter_54 : decode cX7_winter 54 = .ok (.bipush (-4), 2) := by decide +kernel
theorem dX7_winter_56 : decode cX7_winter 56 = .ok (.goto 15, 3) := by decide +kernel
theorem dX7_winter_59 : decode cX7_winter 59 = .ok (.aload_n 0, 1) := by decide +kernel
theorem dX7_winter_60 : decode cX7_winter 60 = .ok (.getfield 23, 3) := by decide +kernel
theorem dX7_winter_63 : decode cX7_winter 63 = .ok (.getfield 202, 3) := by decide +kernel
theorem dX7_winter_66 : decode cX7_winter 66 = .ok (.iload_n 1, 1) := by decide +kernel
theorem dX7_winter_67 : decode cX7_winter 67 = .ok (.iload_n 2, 1) := by decide +kernel
theorem dX7_winter_68 : decode cX7_winter 68 = .ok (.invokevirtual 190, 3) := by decide +kernel
theorem dX7_winter_71 : decode cX7_winter 71 = .ok (.ireturn, 1) := by decide +kernel
theorem dX7_gone_0 : decode cX7_gone 0 = .ok (.iload_n 1, 1) := by decide +kernel
theorem dX7_gone_1 : decode cX7_gone 1 = .ok (.iconst 0, 1) := by decide +kernel
theorem dX7_gone_2 : decode cX7_gone 2 = .ok (.iconst 1, 1) := by decide +kernel
theorem dX7_gone_3 : decode cX7_gone 3 = .ok (.invokestatic 58, 3) := by decide +kernel
theorem dX7_gone_6 : decode cX7_gone 6 = .ok (.ifCond .ne 5, 3) := by decide +kernel
theorem dX7_gone_9 : decode cX7_gone 9 = .ok (.iconst (-1), 1) := by decide +kernel
theorem dX7_gone_10 : decode cX7_gone 10 = .ok (.ireturn, 1) := by decide +kernel
theorem dX7_gone_11 : decode cX7_gone 11 = .ok (.aload_n 0, 1) := by decide +kernel
theorem dX7_gone_12 : decode cX7_gone 12 = .ok (.getfield 27, 3) := by decide +kernel
theorem dX7_gone_15 : decode cX7_gone 15 = .ok (.aload_n 0, 1) := by decide +kernel
theorem dX7_gone_16 : decode cX7_gone 16 = .ok (.getfield 23, 3) := by decide +kernel
theorem dX7_gone_19 : decode cX7_gone 19 = .ok (.invokevirtual 169, 3) := by decide +kernel
theorem dX7_gone_22 : decode cX7_gone 22 = .ok (.iconst 0, 1) := by decide +kernel
theorem dX7_gone_23 : decode cX7_gone 23 = .ok (.istore_n 2, 1) := by decide +kernel
theorem dX7_gone_24 : decode cX7_gone 24 = .ok (.iload_n 2, 1) := by decide +kernel
theorem dX7_gone_25 : decode cX7_gone 25 = .ok (.aload_n 0, 1) := by decide +kernel
theorem dX7_gone_26 : decode cX7_gone 26 = .ok (.getfield 23, 3) := by decide +kernel
theorem dX7_gone_29 : decode cX7_gone 29 = .ok (.getfield 202, 3) := by decide +kernel
theorem dX7_gone_32 : decode cX7_gone 32 = .ok (.getfield 205, 3) := by decide +kernel
theorem dX7_gone_35 : decode cX7_gone 35 = .ok (.if_icmp .ge 40, 3) := by decide +kernel
theorem dX7_gone_38 : decode cX7_gone 38 = .ok (.aload_n 0, 1) := by decide +kernel
theorem dX7_gone_39 : decode cX7_gone 39 = .ok (.getfield 27, 3) := by decide +kernel
theorem dX7_gone_42 : decode cX7_gone 42 = .ok (.aload_n 0, 1) := by decide +kernel
theorem dX7_gone_43 : decode cX7_gone 43 = .ok (.getfield 23, 3) := by decide +kernel
theorem dX7_gone_46 : decode cX7_gone 46 = .ok (.getfield 202, 3) := by decide +kernel
theorem dX7_gone_49 : decode cX7_gone 49 = .ok (.getfield 206, 3) := by decide +kernel
theorem dX7_gone_52 : decode cX7_gone 52 = .ok (.iload_n 2, 1) := by decide +kernel
theorem dX7_gone_53 : decode cX7_gone 53 = .ok (.iaload, 1) := by decide +kernel
theorem dX7_gone_54 : decode cX7_gone 54 = .ok (.aload_n 0, 1) := by decide +kernel
theorem dX7_gone_55 : decode cX7_gone 55 = .ok (.getfield 23, 3) := by decide +kernel
theorem dX7_gone_58 : decode cX7_gone 58 = .ok (.getfield 202, 3) := by decide +kernel
theorem dX7_gone_61 : decode cX7_gone 61 = .ok (.getfield 209, 3) := by decide +kernel
theorem dX7_gone_64 : decode cX7_gone 64 = .ok (.iload_n 2, 1) := by decide +kernel
theorem dX7_gone_65 : decode cX7_gone 65 = .ok (.iaload, 1) := by decide +kernel
theorem dX7_gone_66 : decode cX7_gone 66 = .ok (.invokevirtual 212, 3) := by decide +kernel
theorem dX7_gone_69 : decode cX7_gone 69 = .ok (.iinc 2 1, 3) := by decide +kernel
theorem dX7_gone_72 : decode cX7_gone 72 = .ok (.goto (-48), 3) := by decide +kernel
theorem dX7_gone_75 : decode cX7_gone 75 = .ok (.iload_n 1, 1) := by decide +kernel
theorem dX7_gone_76 : decode cX7_gone 76 = .ok (.ifCond .ne 13, 3) := by decide +kernel
theorem dX7_gone_79 : decode cX7_gone 79 = .ok (.aload_n 0, 1) := by decide +kernel
theorem dX7_gone_80 : decode cX7_gone 80 = .ok (.getfield 27, 3) := by decide +kernel
theorem dX7_gone_83 : decode cX7_gone 83 = .ok (.getfield 117, 3) := by decide +kernel
theorem dX7_gone_86 : decode cX7_gone 86 = .ok (.goto 10, 3) := by decide +kernel
theorem dX7_gone_89 : decode cX7_gone 89 = .ok (.aload_n 0, 1) := by decide +kernel
theorem dX7_gone_90 : decode cX7_gone 90 = .ok (.getfield 27, 3) := by decide +kernel
theorem dX7_gone_93 : decode cX7_gone 93 = .ok (.getfield 120, 3) := by decide +kernel
theorem dX7_gone_96 : decode cX7_gone 96 = .ok (.ireturn, 1) := by decide +kernel
theorem dX7_book_0 : decode cX7_book 0 = .ok (.iload_n 1, 1) := by decide +kernel
theorem dX7_book_1 : decode cX7_book 1 = .ok (.iconst (-1), 1) := by decide +kernel
theorem dX7_book_2 : decode cX7_book 2 = .ok (.if_icmp .ne 15, 3) := by decide +kernel
theorem dX7_book_5 : decode cX7_book 5 = .ok (.aload_n 0, 1) := by decide +kernel
theorem dX7_book_6 : decode cX7_book 6 = .ok (.getfield 23, 3) := by decide +kernel
theorem dX7_book_9 : decode cX7_book 9 = .ok (.getfield 216, 3) := by decide +kernel
theorem dX7_book_12 : decode cX7_book 12 = .ok (.invokevirtual 184, 3) := by decide +kernel
theorem dX7_book_15 : decode cX7_book 15 = .ok (.iconst 0, 1) := by decide +kernel
theorem dX7_book_16 : decode cX7_book 16 = .ok (.ireturn, 1) := by decide +kernel
theorem dX7_book_17 : decode cX7_book 17 = .ok (.aload_n 0, 1) := by decide +kernel
theorem dX7_book_18 : decode cX7_book 18 = .ok (.iload_n 1, 1) := by decide +kernel
theorem dX7_book_19 : decode cX7_book 19 = .ok (.invokevirtual 76, 3) := by decide +kernel
theorem dX7_book_22 : decode cX7_book 22 = .ok (.ifCond .ne 5, 3) := by decide +kernel
theorem dX7_book_25 : decode cX7_book 25 = .ok (.iconst (-1), 1) := by decide +kernel
theorem dX7_book_26 : decode cX7_book 26 = .ok (.ireturn, 1) := by decide +kernel
theorem dX7_book_27 : decode cX7_book 27 = .ok (.iload_n 2, 1) := by decide +kernel
theorem dX7_book_28 : decode cX7_book 28 = .ok (.iconst 0, 1) := by decide +kernel
theorem dX7_book_29 : decode cX7_book 29 = .ok (.sipush 999, 3) := by decide +kernel
theorem dX7_book_32 : decode cX7_book 32 = .ok (.invokestatic 58, 3) := by decide +kernel
theorem dX7_book_35 : decode cX7_book 35 = .ok (.ifCond .ne 6, 3) := by decide +kernel
theorem dX7_book_38 : decode cX7_book 38 = .ok (.bipush (-2), 2) := by decide +kernel
theorem dX7_book_40 : decode cX7_book 40 = .ok (.ireturn, 1) := by decide +kernel
theorem dX7_book_41 : decode cX7_book 41 = .ok (.aload_n 0, 1) := by decide +kernel
theorem dX7_book_42 : decode cX7_book 42 = .ok (.getfield 23, 3) := by decide +kernel
theorem dX7_book_45 : decode cX7_book 45 = .ok (.getfield 216, 3) := by decide +kernel
theorem dX7_book_48 : decode cX7_book 48 = .ok (.invokevirtual 189, 3) := by decide +kernel
theorem dX7_book_51 : decode cX7_book 51 = .ok (.ifCond .eq 8, 3) := by decide +kernel
theorem dX7_book_54 : decode cX7_book 54 = .ok (.bipush (-4), 2) := by decide +kernel
theorem dX7_book_56 : decode cX7_book 56 = .ok (.goto 15, 3) := by decide +kernel
theorem dX7_book_59 : decode cX7_book 59 = .ok (.aload_n 0, 1) := by decide +kernel
theorem dX7_book_60 : decode cX7_book 60 = .ok (.getfield 23, 3) := by decide +kernel
theorem dX7_book_63 : decode cX7_book 63 = .ok (.getfield 216, 3) := by decide +kernel
theorem dX7_book_66 : decode cX7_book 66 = .ok (.iload_n 1, 1) := by decide +kernel
theorem dX7_book_67 : decode cX7_book 67 = .ok (.iload_n 2, 1) := by decide +kernel
theorem dX7_book_68 : decode cX7_book 68 = .ok (.invokevirtual 190, 3) := by decide +kernel
theorem dX7_book_71 : decode cX7_book 71 = .ok (.ireturn, 1) := by decide +kernel
theorem dX7_looked_0 : decode cX7_looked 0 = .ok (.iconst 0, 1) := by decide +kernel
theorem dX7_looked_1 : decode cX7_looked 1 = .ok (.istore_n 1, 1) := by decide +kernel
theorem dX7_looked_2 : decode cX7_looked 2 = .ok (.iload_n 1, 1) := by decide +kernel
theorem dX7_looked_3 : decode cX7_looked 3 = .ok (.aload_n 0, 1) := by decide +kernel
theorem dX7_looked_4 : decode cX7_looked 4 = .ok (.getfield 23, 3) := by decide +kernel
theorem dX7_looked_7 : decode cX7_looked 7 = .ok (.getfield 216, 3) := by decide +kernel
theorem dX7_looked_10 : decode cX7_looked 10 = .ok (.getfield 205, 3) := by decide +kernel
theorem dX7_looked_13 : decode cX7_looked 13 = .ok (.if_icmp .ge 59, 3) := by decide +kernel
theorem dX7_looked_16 : decode cX7_looked 16 = .ok (.aload_n 0, 1) := by decide +kernel
theorem dX7_looked_17 : decode cX7_looked 17 = .ok (.getfield 23, 3) := by decide +kernel
theorem dX7_looked_20 : decode cX7_looked 20 = .ok (.getfield 216, 3) := by decide +kernel
theorem dX7_looked_23 : decode cX7_looked 23 = .ok (.getfield 206, 3) := by decide +kernel
theorem dX7_looked_26 : decode cX7_looked 26 = .ok (.iload_n 1, 1) := by decide +kernel
theorem dX7_looked_27 : decode cX7_looked 27 = .ok (.iaload, 1) := by decide +kernel
theorem dX7_looked_28 : decode cX7_looked 28 = .ok (.istore_n 2, 1) := by decide +kernel
theorem dX7_looked_29 : decode cX7_looked 29 = .ok (.aload_n 0, 1) := by decide +kernel
theorem dX7_looked_30 : decode cX7_looked 30 = .ok (.iload_n 2, 1) := by decide +kernel
theorem dX7_looked_31 : decode cX7_looked 31 = .ok (.invokevirtual 76, 3) := by decide +kernel
theorem dX7_looked_34 : decode cX7_looked 34 = .ok (.ifCond .eq 32, 3) := by decide +kernel
theorem dX7_looked_37 : decode cX7_looked 37 = .ok (.aload_n 0, 1) := by decide +kernel
theorem dX7_looked_38 : decode cX7_looked 38 = .ok (.getfield 23, 3) := by decide +kernel
theorem dX7_looked_41 : decode cX7_looked 41 = .ok (.getfield 62, 3) := by decide +kernel
theorem dX7_looked_44 : decode cX7_looked 44 = .ok (.getfield 87, 3) := by decide +kernel
theorem dX7_looked_47 : decode cX7_looked 47 = .ok (.iload_n 2, 1) := by decide +kernel
theorem dX7_looked_48 : decode cX7_looked 48 = .ok (.iaload, 1) := by decide +kernel
theorem dX7_looked_49 : decode cX7_looked 49 = .ok (.aload_n 0, 1) := by decide +kernel
theorem dX7_looked_50 : decode cX7_looked 50 = .ok (.getfield 23, 3) := by decide +kernel
theorem dX7_looked_53 : decode cX7_looked 53 = .ok (.getfield 216, 3) := by decide +kernel
theorem dX7_looked_56 : decode cX7_looked 56 = .ok (.getfield 209, 3) := by decide +kernel
theorem dX7_looked_59 : decode cX7_looked 59 = .ok (.iload_n 1, 1) := by decide +kernel
theorem dX7_looked_60 : decode cX7_looked 60 = .ok (.iaload, 1) := by decide +kernel
theorem dX7_looked_61 : decode cX7_looked 61 = .ok (.if_icmp .eq 5, 3) := by decide +kernel
theorem dX7_looked_64 : decode cX7_looked 64 = .ok (.iload_n 1, 1) := by decide +kernel
theorem dX7_looked_65 : decode cX7_looked 65 = .ok (.ireturn, 1) := by decide +kernel
theorem dX7_looked_66 : decode cX7_looked 66 = .ok (.iinc 1 1, 3) := by decide +kernel
theorem dX7_looked_69 : decode cX7_looked 69 = .ok (.goto (-67), 3) := by decide +kernel
theorem dX7_looked_72 : decode cX7_looked 72 = .ok (.bipush (-5), 2) := by decide +kernel
theorem dX7_looked_74 : decode cX7_looked 74 = .ok (.ireturn, 1) := by decide +kernel
theorem dX7_judge_0 : decode cX7_judge 0 = .ok (.aload_n 0, 1) := by decide +kernel
theorem dX7_judge_1 : decode cX7_judge 1 = .ok (.getfield 54, 3) := by decide +kernel
theorem dX7_judge_4 : decode cX7_judge 4 = .ok (.iload_n 1, 1) := by decide +kernel
theorem dX7_judge_5 : decode cX7_judge 5 = .ok (.invokevirtual 219, 3) := by decide +kernel
theorem dX7_judge_8 : decode cX7_judge 8 = .ok (.ifCond .ne 5, 3) := by decide +kernel
theorem dX7_judge_11 : decode cX7_judge 11 = .ok (.iconst (-1), 1) := by decide +kernel
theorem dX7_judge_12 : decode cX7_judge 12 = .ok (.ireturn, 1) := by decide +kernel
theorem dX7_judge_13 : decode cX7_judge 13 = .ok (.aload_n 0, 1) := by decide +kernel
theorem dX7_judge_14 : decode cX7_judge 14 = .ok (.getfield 54, 3) := by decide +kernel
theorem dX7_judge_17 : decode cX7_judge 17 = .ok (.iload_n 1, 1) := by decide +kernel
theorem dX7_judge_18 : decode cX7_judge 18 = .ok (.invokevirtual 222, 3) := by decide +kernel
theorem dX7_judge_21 : decode cX7_judge 21 = .ok (.ifCond .ne 18, 3) := by decide +kernel
theorem dX7_judge_24 : decode cX7_judge 24 = .ok (.aload_n 0, 1) := by decide +kernel
theorem dX7_judge_25 : decode cX7_judge 25 = .ok (.getfield 54, 3) := by decide +kernel
theorem dX7_judge_28 : decode cX7_judge 28 = .ok (.iload_n 1, 1) := by decide +kernel
theorem dX7_judge_29 : decode cX7_judge 29 = .ok (.iconst 1, 1) := by decide +kernel
theorem dX7_judge_30 : decode cX7_judge 30 = .ok (.invokevirtual 225, 3) := by decide +kernel
theorem dX7_judge_33 : decode cX7_judge 33 = .ok (.ifCond .ne 6, 3) := by decide +kernel
theorem dX7_judge_36 : decode cX7_judge 36 = .ok (.bipush (-12), 2) := by decide +kernel
theorem dX7_judge_38 : decode cX7_judge 38 = .ok (.ireturn, 1) := by decide +kernel
theorem dX7_judge_39 : decode cX7_judge 39 = .ok (.iconst 0, 1) := by decide +kernel
theorem dX7_judge_40 : decode cX7_judge 40 = .ok (.istore_n 3, 1) := by decide +kernel
theorem dX7_judge_41 : decode cX7_judge 41 = .ok (.iload_n 3, 1) := by decide +kernel
theorem dX7_judge_42 : decode cX7_judge 42 = .ok (.aload_n 0, 1) := by decide +kernel
theorem dX7_judge_43 : decode cX7_judge 43 = .ok (.getfield 23, 3) := by decide +kernel
theorem dX7_judge_46 : decode cX7_judge 46 = .ok (.getfield 62, 3) := by decide +kernel
theorem dX7_judge_49 : decode cX7_judge 49 = .ok (.getfield 66, 3) := by decide +kernel
theorem dX7_judge_52 : decode cX7_judge 52 = .ok (.if_icmp .ge 60, 3) := by decide +kernel
theorem dX7_judge_55 : decode cX7_judge 55 = .ok (.aload_n 0, 1) := by decide +kernel
theorem dX7_judge_56 : decode cX7_judge 56 = .ok (.getfield 54, 3) := by decide +kernel
theorem dX7_judge_59 : decode cX7_judge 59 = .ok (.iload_n 1, 1) := by decide +kernel
theorem dX7_judge_60 : decode cX7_judge 60 = .ok (.iload_n 2, 1) := by decide +kernel
theorem dX7_judge_61 : decode cX7_judge 61 = .ok (.i2l, 1) := by decide +kernel
theorem dX7_judge_62 : decode cX7_judge 62 = .ok (.iload_n 3, 1) := by decide +kernel
theorem dX7_judge_63 : decode cX7_judge 63 = .ok (.i2l, 1) := by decide +kernel
theorem dX7_judge_64 : decode cX7_judge 64 = .ok (.ladd, 1) := by decide +kernel
theorem dX7_judge_65 : decode cX7_judge 65 = .ok (.invokevirtual 228, 3) := by decide +kernel
theorem dX7_judge_68 : decode cX7_judge 68 = .ok (.ifCond .ne 8, 3) := by decide +kernel
theorem dX7_judge_71 : decode cX7_judge 71 = .ok (.bipush 100, 2) := by decide +kernel
theorem dX7_judge_73 : decode cX7_judge 73 = .ok (.iload_n 3, 1) := by decide +kernel
theorem dX7_judge_74 : decode cX7_judge 74 = .ok (.iadd, 1) := by decide +kernel
theorem dX7_judge_75 : decode cX7_judge 75 = .ok (.ireturn, 1) := by decide +kernel
theorem dX7_judge_76 : decode cX7_judge 76 = .ok (.aload_n 0, 1) := by decide +kernel
theorem dX7_judge_77 : decode cX7_judge 77 = .ok (.getfield 54, 3) := by decide +kernel
theorem dX7_judge_80 : decode cX7_judge 80 = .ok (.iload_n 1, 1) := by decide +kernel
theorem dX7_judge_81 : decode cX7_judge 81 = .ok (.iload_n 2, 1) := by decide +kernel
theorem dX7_judge_82 : decode cX7_judge 82 = .ok (.iload_n 3, 1) := by decide +kernel
theorem dX7_judge_83 : decode cX7_judge 83 = .ok (.iadd, 1) := by decide +kernel
theorem dX7_judge_84 : decode cX7_judge 84 = .ok (.invokevirtual 232, 3) := by decide +kernel
theorem dX7_judge_87 : decode cX7_judge 87 = .ok (.aload_n 0, 1) := by decide +kernel
theorem dX7_judge_88 : decode cX7_judge 88 = .ok (.getfield 23, 3) := by decide +kernel
theorem dX7_judge_91 : decode cX7_judge 91 = .ok (.getfield 62, 3) := by decide +kernel
theorem dX7_judge_94 : decode cX7_judge 94 = .ok (.getfield 87, 3) := by decide +kernel
theorem dX7_judge_97 : decode cX7_judge 97 = .ok (.iload_n 3, 1) := by decide +kernel
theorem dX7_judge_98 : decode cX7_judge 98 = .ok (.iaload, 1) := by decide +kernel
theorem dX7_judge_99 : decode cX7_judge 99 = .ok (.i2l, 1) := by decide +kernel
theorem dX7_judge_100 : decode cX7_judge 100 = .ok (.lcmp, 1) := by decide +kernel
theorem dX7_judge_101 : decode cX7_judge 101 = .ok (.ifCond .eq 5, 3) := by decide +kernel
theorem dX7_judge_104 : decode cX7_judge 104 = .ok (.iload_n 3, 1) := by decide +kernel
theorem dX7_judge_105 : decode cX7_judge 105 = .ok (.ireturn, 1) := by decide +kernel
theorem dX7_judge_106 : decode cX7_judge 106 = .ok (.iinc 3 1, 3) := by decide +kernel
theorem dX7_judge_109 : decode cX7_judge 109 = .ok (.goto (-68), 3) := by decide +kernel
theorem dX7_judge_112 : decode cX7_judge 112 = .ok (.bipush (-5), 2) := by decide +kernel
theorem dX7_judge_114 : decode cX7_judge 114 = .ok (.ireturn, 1) := by decide +kernel
theorem dX7_image_0 : decode cX7_image 0 = .ok (.aload_n 0, 1) := by decide +kernel
theorem dX7_image_1 : decode cX7_image 1 = .ok (.getfield 30, 3) := by decide +kernel
theorem dX7_image_4 : decode cX7_image 4 = .ok (.aload_n 0, 1) := by decide +kernel
theorem dX7_image_5 : decode cX7_image 5 = .ok (.getfield 23, 3) := by decide +kernel
theorem dX7_image_8 : decode cX7_image 8 = .ok (.invokevirtual 236, 3) := by decide +kernel
theorem dX7_image_11 : decode cX7_image 11 = .ok (.aload_n 0, 1) := by decide +kernel
theorem dX7_image_12 : decode cX7_image 12 = .ok (.iconst 1, 1) := by decide +kernel
theorem dX7_image_13 : decode cX7_image 13 = .ok (.putfield 239, 3) := by decide +kernel
theorem dX7_image_16 : decode cX7_image 16 = .ok (.aload_n 0, 1) := by decide +kernel
theorem dX7_image_17 : decode cX7_image 17 = .ok (.getfield 23, 3) := by decide +kernel
theorem dX7_image_20 : decode cX7_image 20 = .ok (.getfield 62, 3) := by decide +kernel
theorem dX7_image_23 : decode cX7_image 23 = .ok (.getfield 66, 3) := by decide +kernel
theorem dX7_image_26 : decode cX7_image 26 = .ok (.ireturn, 1) := by decide +kernel
theorem dX7_undo_0 : decode cX7_undo 0 = .ok (.aload_n 0, 1) := by decide +kernel
theorem dX7_undo_1 : decode cX7_undo 1 = .ok (.getfield 239, 3) := by decide +kernel
theorem dX7_undo_4 : decode cX7_undo 4 = .ok (.ifCond .ne 6, 3) := by decide +kernel
theorem dX7_undo_7 : decode cX7_undo 7 = .ok (.bipush (-3), 2) := by decide +kernel
theorem dX7_undo_9 : decode cX7_undo 9 = .ok (.ireturn, 1) := by decide +kernel
theorem dX7_undo_10 : decode cX7_undo 10 = .ok (.aload_n 0, 1) := by decide +kernel
theorem dX7_undo_11 : decode cX7_undo 11 = .ok (.getfield 23, 3) := by decide +kernel
theorem dX7_undo_14 : decode cX7_undo 14 = .ok (.aload_n 0, 1) := by decide +kernel
theorem dX7_undo_15 : decode cX7_undo 15 = .ok (.getfield 30, 3) := by decide +kernel
theorem dX7_undo_18 : decode cX7_undo 18 = .ok (.invokevirtual 236, 3) := by decide +kernel
theorem dX7_undo_21 : decode cX7_undo 21 = .ok (.aload_n 0, 1) := by decide +kernel
theorem dX7_undo_22 : decode cX7_undo 22 = .ok (.getfield 23, 3) := by decide +kernel
theorem dX7_undo_25 : decode cX7_undo 25 = .ok (.getfield 62, 3) := by decide +kernel
theorem dX7_undo_28 : decode cX7_undo 28 = .ok (.getfield 66, 3) := by decide +kernel
theorem dX7_undo_31 : decode cX7_undo 31 = .ok (.ireturn, 1) := by decide +kernel
theorem dX7_act_0 : decode cX7_act 0 = .ok (.aload_n 0, 1) := by decide +kernel
theorem dX7_act_1 : decode cX7_act 1 = .ok (.getfield 47, 3) := by decide +kernel
theorem dX7_act_4 : decode cX7_act 4 = .ok (.invokevirtual 243, 3) := by decide +kernel
theorem dX7_act_7 : decode cX7_act 7 = .ok (.aload_n 0, 1) := by decide +kernel
theorem dX7_act_8 : decode cX7_act 8 = .ok (.iload_n 1, 1) := by decide +kernel
theorem dX7_act_9 : decode cX7_act 9 = .ok (.invokevirtual 76, 3) := by decide +kernel
theorem dX7_act_12 : decode cX7_act 12 = .ok (.ifCond .eq 12, 3) := by decide +kernel
theorem dX7_act_15 : decode cX7_act 15 = .ok (.iload_n 2, 1) := by decide +kernel
theorem dX7_act_16 : decode cX7_act 16 = .ok (.iconst 0, 1) := by decide +kernel
theorem dX7_act_17 : decode cX7_act 17 = .ok (.iconst 2, 1) := by decide +kernel
theorem dX7_act_18 : decode cX7_act 18 = .ok (.invokestatic 58, 3) := by decide +kernel
theorem dX7_act_21 : decode cX7_act 21 = .ok (.ifCond .ne 5, 3) := by decide +kernel
theorem dX7_act_24 : decode cX7_act 24 = .ok (.iconst 0, 1) := by decide +kernel
theorem dX7_act_25 : decode cX7_act 25 = .ok (.ireturn, 1) := by decide +kernel
theorem dX7_act_26 : decode cX7_act 26 = .ok (.aload_n 0, 1) := by decide +kernel
theorem dX7_act_27 : decode cX7_act 27 = .ok (.getfield 47, 3) := by decide +kernel
theorem dX7_act_30 : decode cX7_act 30 = .ok (.aload_n 0, 1) := by decide +kernel
theorem dX7_act_31 : decode cX7_act 31 = .ok (.getfield 23, 3) := by decide +kernel
theorem dX7_act_34 : decode cX7_act 34 = .ok (.getfield 62, 3) := by decide +kernel
theorem dX7_act_37 : decode cX7_act 37 = .ok (.iload_n 1, 1) := by decide +kernel
theorem dX7_act_38 : decode cX7_act 38 = .ok (.iload_n 2, 1) := by decide +kernel
theorem dX7_act_39 : decode cX7_act 39 = .ok (.iload_n 3, 1) := by decide +kernel
theorem dX7_act_40 : decode cX7_act 40 = .ok (.invokevirtual 246, 3) := by decide +kernel
theorem dX7_act_43 : decode cX7_act 43 = .ok (.ireturn, 1) := by decide +kernel
theorem dX7_trace_0 : decode cX7_trace 0 = .ok (.iload_n 1, 1) := by decide +kernel
theorem dX7_trace_1 : decode cX7_trace 1 = .ok (.iconst 0, 1) := by decide +kernel
theorem dX7_trace_2 : decode cX7_trace 2 = .ok (.aload_n 0, 1) := by decide +kernel
theorem dX7_trace_3 : decode cX7_trace 3 = .ok (.getfield 47, 3) := by decide +kernel
theorem dX7_trace_6 : decode cX7_trace 6 = .ok (.invokevirtual 250, 3) := by decide +kernel
theorem dX7_trace_9 : decode cX7_trace 9 = .ok (.iconst 1, 1) := by decide +kernel
theorem dX7_trace_10 : decode cX7_trace 10 = .ok (.isub, 1) := by decide +kernel
theorem dX7_trace_11 : decode cX7_trace 11 = .ok (.invokestatic 58, 3) := by decide +kernel
theorem dX7_trace_14 : decode cX7_trace 14 = .ok (.ifCond .eq 15, 3) := by decide +kernel
theorem dX7_trace_17 : decode cX7_trace 17 = .ok (.aload_n 0, 1) := by decide +kernel
theorem dX7_trace_18 : decode cX7_trace 18 = .ok (.getfield 47, 3) := by decide +kernel
theorem dX7_trace_21 : decode cX7_trace 21 = .ok (.getfield 253, 3) := by decide +kernel
theorem dX7_trace_24 : decode cX7_trace 24 = .ok (.iload_n 1, 1) := by decide +kernel
theorem dX7_trace_25 : decode cX7_trace 25 = .ok (.iaload, 1) := by decide +kernel
theorem dX7_trace_26 : decode cX7_trace 26 = .ok (.goto 4, 3) := by decide +kernel
theorem dX7_trace_29 : decode cX7_trace 29 = .ok (.iconst (-1), 1) := by decide +kernel
theorem dX7_trace_30 : decode cX7_trace 30 = .ok (.ireturn, 1) := by decide +kernel
theorem dX7_taken_0 : decode cX7_taken 0 = .ok (.iload_n 2, 1) := by decide +kernel
theorem dX7_taken_1 : decode cX7_taken 1 = .ok (.iconst 0, 1) := by decide +kernel
theorem dX7_taken_2 : decode cX7_taken 2 = .ok (.bipush 6, 2) := by decide +kernel
theorem dX7_taken_4 : decode cX7_taken 4 = .ok (.invokestatic 58, 3) := by decide +kernel
theorem dX7_taken_7 : decode cX7_taken 7 = .ok (.ifCond .ne 6, 3) := by decide +kernel
theorem dX7_taken_10 : decode cX7_taken 10 = .ok (.bipush (-2), 2) := by decide +kernel
theorem dX7_taken_12 : decode cX7_taken 12 = .ok (.ireturn, 1) := by decide +kernel
theorem dX7_taken_13 : decode cX7_taken 13 = .ok (.aload_n 0, 1) := by decide +kernel
theorem dX7_taken_14 : decode cX7_taken 14 = .ok (.iload_n 1, 1) := by decide +kernel
theorem dX7_taken_15 : decode cX7_taken 15 = .ok (.invokevirtual 76, 3) := by decide +kernel
theorem dX7_taken_18 : decode cX7_taken 18 = .ok (.ifCond .ne 6, 3) := by decide +kernel
theorem dX7_taken_21 : decode cX7_taken 21 = .ok (.bipush (-11), 2) := by decide +kernel
theorem dX7_taken_23 : decode cX7_taken 23 = .ok (.ireturn, 1) := by decide +kernel
theorem dX7_taken_24 : decode cX7_taken 24 = .ok (.aload_n 0, 1) := by decide +kernel
theorem dX7_taken_25 : decode cX7_taken 25 = .ok (.getfield 23, 3) := by decide +kernel
theorem dX7_taken_28 : decode cX7_taken 28 = .ok (.getfield 62, 3) := by decide +kernel
theorem dX7_taken_31 : decode cX7_taken 31 = .ok (.getfield 80, 3) := by decide +kernel
theorem dX7_taken_34 : decode cX7_taken 34 = .ok (.iload_n 1, 1) := by decide +kernel
theorem dX7_taken_35 : decode cX7_taken 35 = .ok (.iaload, 1) := by decide +kernel
theorem dX7_taken_36 : decode cX7_taken 36 = .ok (.istore_n 3, 1) := by decide +kernel
theorem dX7_taken_37 : decode cX7_taken 37 = .ok (.iload_n 3, 1) := by decide +kernel
theorem dX7_taken_38 : decode cX7_taken 38 = .ok (.iload_n 2, 1) := by decide +kernel
theorem dX7_taken_39 : decode cX7_taken 39 = .ok (.invokestatic 256, 3) := by decide +kernel
theorem dX7_taken_42 : decode cX7_taken 42 = .ok (.ifCond .eq 7, 3) := by decide +kernel
theorem dX7_taken_45 : decode cX7_taken 45 = .ok (.iload_n 3, 1) := by decide +kernel
theorem dX7_taken_46 : decode cX7_taken 46 = .ok (.goto 5, 3) := by decide +kernel
theorem dX7_taken_49 : decode cX7_taken 49 = .ok (.bipush (-12), 2) := by decide +kernel
theorem dX7_taken_51 : decode cX7_taken 51 = .ok (.ireturn, 1) := by decide +kernel
theorem dX7_count_0 : decode cX7_count 0 = .ok (.iload_n 1, 1) := by decide +kernel
theorem dX7_count_1 : decode cX7_count 1 = .ok (.tableswitch 120 0 7 #[47, 58, 63, 71, 82, 93, 104, 112], 47) := by decide +kernel
theorem dX7_count_48 : decode cX7_count 48 = .ok (.aload_n 0, 1) := by decide +kernel
theorem dX7_count_49 : decode cX7_count 49 = .ok (.getfield 23, 3) := by decide +kernel
theorem dX7_count_52 : decode cX7_count 52 = .ok (.getfield 62, 3) := by decide +kernel
theorem dX7_count_55 : decode cX7_count 55 = .ok (.getfield 66, 3) := by decide +kernel
theorem dX7_count_58 : decode cX7_count 58 = .ok (.ireturn, 1) := by decide +kernel
theorem dX7_count_59 : decode cX7_count 59 = .ok (.aload_n 0, 1) := by decide +kernel
theorem dX7_count_60 : decode cX7_count 60 = .ok (.getfield 137, 3) := by decide +kernel
theorem dX7_count_63 : decode cX7_count 63 = .ok (.ireturn, 1) := by decide +kernel
theorem dX7_count_64 : decode cX7_count 64 = .ok (.aload_n 0, 1) := by decide +kernel
theorem dX7_count_65 : decode cX7_count 65 = .ok (.getfield 23, 3) := by decide +kernel
theorem dX7_count_68 : decode cX7_count 68 = .ok (.getfield 123, 3) := by decide +kernel
theorem dX7_count_71 : decode cX7_count 71 = .ok (.ireturn, 1) := by decide +kernel
theorem dX7_count_72 : decode cX7_count 72 = .ok (.aload_n 0, 1) := by decide +kernel
theorem dX7_count_73 : decode cX7_count 73 = .ok (.getfield 23, 3) := by decide +kernel
theorem dX7_count_76 : decode cX7_count 76 = .ok (.getfield 180, 3) := by decide +kernel
theorem dX7_count_79 : decode cX7_count 79 = .ok (.getfield 205, 3) := by decide +kernel
theorem dX7_count_82 : decode cX7_count 82 = .ok (.ireturn, 1) := by decide +kernel
theorem dX7_count_83 : decode cX7_count 83 = .ok (.aload_n 0, 1) := by decide +kernel
theorem dX7_count_84 : decode cX7_count 84 = .ok (.getfield 23, 3) := by decide +kernel
theorem dX7_count_87 : decode cX7_count 87 = .ok (.getfield 202, 3) := by decide +kernel
theorem dX7_count_90 : decode cX7_count 90 = .ok (.getfield 205, 3) := by decide +kernel
theorem dX7_count_93 : decode cX7_count 93 = .ok (.ireturn, 1) := by decide +kernel
theorem dX7_count_94 : decode cX7_count 94 = .ok (.aload_n 0, 1) := by decide +kernel
theorem dX7_count_95 : decode cX7_count 95 = .ok (.getfield 23, 3) := by decide +kernel
theorem dX7_count_98 : decode cX7_count 98 = .ok (.getfield 216, 3) := by decide +kernel
theorem dX7_count_101 : decode cX7_count 101 = .ok (.getfield 205, 3) := by decide +kernel
theorem dX7_count_104 : decode cX7_count 104 = .ok (.ireturn, 1) := by decide +kernel
theorem dX7_count_105 : decode cX7_count 105 = .ok (.aload_n 0, 1) := by decide +kernel
theorem dX7_count_106 : decode cX7_count 106 = .ok (.getfield 40, 3) := by decide +kernel
theorem dX7_count_109 : decode cX7_count 109 = .ok (.getfield 259, 3) := by decide +kernel
theorem dX7_count_112 : decode cX7_count 112 = .ok (.ireturn, 1) := by decide +kernel
theorem dX7_count_113 : decode cX7_count 113 = .ok (.aload_n 0, 1) := by decide +kernel
theorem dX7_count_114 : decode cX7_count 114 = .ok (.getfield 47, 3) := by decide +kernel
theorem dX7_count_117 : decode cX7_count 117 = .ok (.getfield 260, 3) := by decide +kernel
theorem dX7_count_120 : decode cX7_count 120 = .ok (.ireturn, 1) := by decide +kernel
theorem dX7_count_121 : decode cX7_count 121 = .ok (.bipush (-2), 2) := by decide +kernel
theorem dX7_count_123 : decode cX7_count 123 = .ok (.ireturn, 1) := by decide +kernel
theorem dX7_tape_0 : decode cX7_tape 0 = .ok (.aload_n 0, 1) := by decide +kernel
theorem dX7_tape_1 : decode cX7_tape 1 = .ok (.getfield 54, 3) := by decide +kernel
theorem dX7_tape_4 : decode cX7_tape 4 = .ok (.iload_n 1, 1) := by decide +kernel
theorem dX7_tape_5 : decode cX7_tape 5 = .ok (.invokevirtual 219, 3) := by decide +kernel
theorem dX7_tape_8 : decode cX7_tape 8 = .ok (.ifCond .ne 5, 3) := by decide +kernel
theorem dX7_tape_11 : decode cX7_tape 11 = .ok (.iconst (-1), 1) := by decide +kernel
theorem dX7_tape_12 : decode cX7_tape 12 = .ok (.ireturn, 1) := by decide +kernel
theorem dX7_tape_13 : decode cX7_tape 13 = .ok (.iload_n 2, 1) := by decide +kernel
theorem dX7_tape_14 : decode cX7_tape 14 = .ok (.iconst (-1), 1) := by decide +kernel
theorem dX7_tape_15 : decode cX7_tape 15 = .ok (.if_icmp .ne 13, 3) := by decide +kernel
theorem dX7_tape_18 : decode cX7_tape 18 = .ok (.aload_n 0, 1) := by decide +kernel
theorem dX7_tape_19 : decode cX7_tape 19 = .ok (.getfield 54, 3) := by decide +kernel
theorem dX7_tape_22 : decode cX7_tape 22 = .ok (.iload_n 1, 1) := by decide +kernel
theorem dX7_tape_23 : decode cX7_tape 23 = .ok (.invokevirtual 263, 3) := by decide +kernel
theorem dX7_tape_26 : decode cX7_tape 26 = .ok (.iconst 1, 1) := by decide +kernel
theorem dX7_tape_27 : decode cX7_tape 27 = .ok (.ireturn, 1) := by decide +kernel
theorem dX7_tape_28 : decode cX7_tape 28 = .ok (.iload_n 2, 1) := by decide +kernel
theorem dX7_tape_29 : decode cX7_tape 29 = .ok (.iconst 0, 1) := by decide +kernel
theorem dX7_tape_30 : decode cX7_tape 30 = .ok (.iconst 4, 1) := by decide +kernel
theorem dX7_tape_31 : decode cX7_tape 31 = .ok (.invokestatic 58, 3) := by decide +kernel
theorem dX7_tape_34 : decode cX7_tape 34 = .ok (.ifCond .eq 9, 3) := by decide +kernel
theorem dX7_tape_37 : decode cX7_tape 37 = .ok (.iload_n 3, 1) := by decide +kernel
theorem dX7_tape_38 : decode cX7_tape 38 = .ok (.bipush 60, 2) := by decide +kernel
theorem dX7_tape_40 : decode cX7_tape 40 = .ok (.if_icmp .le 6, 3) := by decide +kernel
theorem dX7_tape_43 : decode cX7_tape 43 = .ok (.bipush (-2), 2) := by decide +kernel
theorem dX7_tape_45 : decode cX7_tape 45 = .ok (.ireturn, 1) := by decide +kernel
theorem dX7_tape_46 : decode cX7_tape 46 = .ok (.iload_n 3, 1) := by decide +kernel
theorem dX7_tape_47 : decode cX7_tape 47 = .ok (.ifCond .ge 6, 3) := by decide +kernel
theorem dX7_tape_50 : decode cX7_tape 50 = .ok (.bipush (-14), 2) := by decide +kernel
theorem dX7_tape_52 : decode cX7_tape 52 = .ok (.ireturn, 1) := by decide +kernel
theorem dX7_tape_53 : decode cX7_tape 53 = .ok (.aload_n 0, 1) := by decide +kernel
theorem dX7_tape_54 : decode cX7_tape 54 = .ok (.getfield 54, 3) := by decide +kernel
theorem dX7_tape_57 : decode cX7_tape 57 = .ok (.iload_n 1, 1) := by decide +kernel
theorem dX7_tape_58 : decode cX7_tape 58 = .ok (.iload_n 2, 1) := by decide +kernel
theorem dX7_tape_59 : decode cX7_tape 59 = .ok (.iload_n 3, 1) := by decide +kernel
theorem dX7_tape_60 : decode cX7_tape 60 = .ok (.invokevirtual 266, 3) := by decide +kernel
theorem dX7_tape_63 : decode cX7_tape 63 = .ok (.iconst 1, 1) := by decide +kernel
theorem dX7_tape_64 : decode cX7_tape 64 = .ok (.ireturn, 1) := by decide +kernel
theorem dX7_item_0 : decode cX7_item 0 = .ok (.aload_n 0, 1) := by decide +kernel
theorem dX7_item_1 : decode cX7_item 1 = .ok (.getfield 54, 3) := by decide +kernel
theorem dX7_item_4 : decode cX7_item 4 = .ok (.iload_n 1, 1) := by decide +kernel
theorem dX7_item_5 : decode cX7_item 5 = .ok (.invokevirtual 219, 3) := by decide +kernel
theorem dX7_item_8 : decode cX7_item 8 = .ok (.ifCond .ne 5, 3) := by decide +kernel
theorem dX7_item_11 : decode cX7_item 11 = .ok (.iconst (-1), 1) := by decide +kernel
theorem dX7_item_12 : decode cX7_item 12 = .ok (.ireturn, 1) := by decide +kernel
theorem dX7_item_13 : decode cX7_item 13 = .ok (.aload_n 0, 1) := by decide +kernel
theorem dX7_item_14 : decode cX7_item 14 = .ok (.getfield 54, 3) := by decide +kernel
theorem dX7_item_17 : decode cX7_item 17 = .ok (.iload_n 1, 1) := by decide +kernel
theorem dX7_item_18 : decode cX7_item 18 = .ok (.invokevirtual 222, 3) := by decide +kernel
theorem dX7_item_21 : decode cX7_item 21 = .ok (.ifCond .eq 6, 3) := by decide +kernel
theorem dX7_item_24 : decode cX7_item 24 = .ok (.bipush (-11), 2) := by decide +kernel
theorem dX7_item_26 : decode cX7_item 26 = .ok (.ireturn, 1) := by decide +kernel
theorem dX7_item_27 : decode cX7_item 27 = .ok (.aload_n 0, 1) := by decide +kernel
theorem dX7_item_28 : decode cX7_item 28 = .ok (.getfield 54, 3) := by decide +kernel
theorem dX7_item_31 : decode cX7_item 31 = .ok (.iload_n 1, 1) := by decide +kernel
theorem dX7_item_32 : decode cX7_item 32 = .ok (.iload_n 2, 1) := by decide +kernel
theorem dX7_item_33 : decode cX7_item 33 = .ok (.i2l, 1) := by decide +kernel
theorem dX7_item_34 : decode cX7_item 34 = .ok (.invokevirtual 228, 3) := by decide +kernel
theorem dX7_item_37 : decode cX7_item 37 = .ok (.ifCond .ne 6, 3) := by decide +kernel
theorem dX7_item_40 : decode cX7_item 40 = .ok (.bipush (-13), 2) := by decide +kernel
theorem dX7_item_42 : decode cX7_item 42 = .ok (.ireturn, 1) := by decide +kernel
theorem dX7_item_43 : decode cX7_item 43 = .ok (.aload_n 0, 1) := by decide +kernel
theorem dX7_item_44 : decode cX7_item 44 = .ok (.getfield 54, 3) := by decide +kernel
theorem dX7_item_47 : decode cX7_item 47 = .ok (.iload_n 1, 1) := by decide +kernel
theorem dX7_item_48 : decode cX7_item 48 = .ok (.iload_n 2, 1) := by decide +kernel
theorem dX7_item_49 : decode cX7_item 49 = .ok (.lload_n 3, 1) := by decide +kernel
theorem dX7_item_50 : decode cX7_item 50 = .ok (.invokevirtual 270, 3) := by decide +kernel
theorem dX7_item_53 : decode cX7_item 53 = .ok (.iconst 1, 1) := by decide +kernel
theorem dX7_item_54 : decode cX7_item 54 = .ok (.ireturn, 1) := by decide +kernel
theorem dX7_read_0 : decode cX7_read 0 = .ok (.aload_n 0, 1) := by decide +kernel
theorem dX7_read_1 : decode cX7_read 1 = .ok (.getfield 54, 3) := by decide +kernel
theorem dX7_read_4 : decode cX7_read 4 = .ok (.iload_n 1, 1) := by decide +kernel
theorem dX7_read_5 : decode cX7_read 5 = .ok (.invokevirtual 219, 3) := by decide +kernel
theorem dX7_read_8 : decode cX7_read 8 = .ok (.ifCond .eq 28, 3) := by decide +kernel
theorem dX7_read_11 : decode cX7_read 11 = .ok (.aload_n 0, 1) := by decide +kernel
theorem dX7_read_12 : decode cX7_read 12 = .ok (.getfield 54, 3) := by decide +kernel
theorem dX7_read_15 : decode cX7_read 15 = .ok (.iload_n 1, 1) := by decide +kernel
theorem dX7_read_16 : decode cX7_read 16 = .ok (.iload_n 2, 1) := by decide +kernel
theorem dX7_read_17 : decode cX7_read 17 = .ok (.i2l, 1) := by decide +kernel
theorem dX7_read_18 : decode cX7_read 18 = .ok (.invokevirtual 228, 3) := by decide +kernel
theorem dX7_read_21 : decode cX7_read 21 = .ok (.ifCond .eq 15, 3) := by decide +kernel
theorem dX7_read_24 : decode cX7_read 24 = .ok (.aload_n 0, 1) := by decide +kernel
theorem dX7_read_25 : decode cX7_read 25 = .ok (.getfield 54, 3) := by decide +kernel
theorem dX7_read_28 : decode cX7_read 28 = .ok (.iload_n 1, 1) := by decide +kernel
theorem dX7_read_29 : decode cX7_read 29 = .ok (.iload_n 2, 1) := by decide +kernel
theorem dX7_read_30 : decode cX7_read 30 = .ok (.invokevirtual 232, 3) := by decide +kernel
theorem dX7_read_33 : decode cX7_read 33 = .ok (.goto 6, 3) := by decide +kernel
theorem dX7_read_36 : decode cX7_read 36 = .ok (.ldc2_w 196, 3) := by decide +kernel
theorem dX7_read_39 : decode cX7_read 39 = .ok (.lreturn, 1) := by decide +kernel
theorem dX7_shift_0 : decode cX7_shift 0 = .ok (.aload_n 0, 1) := by decide +kernel
theorem dX7_shift_1 : decode cX7_shift 1 = .ok (.getfield 54, 3) := by decide +kernel
theorem dX7_shift_4 : decode cX7_shift 4 = .ok (.iload_n 1, 1) := by decide +kernel
theorem dX7_shift_5 : decode cX7_shift 5 = .ok (.invokevirtual 219, 3) := by decide +kernel
theorem dX7_shift_8 : decode cX7_shift 8 = .ok (.ifCond .eq 14, 3) := by decide +kernel
theorem dX7_shift_11 : decode cX7_shift 11 = .ok (.aload_n 0, 1) := by decide +kernel
theorem dX7_shift_12 : decode cX7_shift 12 = .ok (.getfield 54, 3) := by decide +kernel
theorem dX7_shift_15 : decode cX7_shift 15 = .ok (.iload_n 3, 1) := by decide +kernel
theorem dX7_shift_16 : decode cX7_shift 16 = .ok (.invokevirtual 219, 3) := by decide +kernel
theorem dX7_shift_19 : decode cX7_shift 19 = .ok (.ifCond .ne 5, 3) := by decide +kernel
theorem dX7_shift_22 : decode cX7_shift 22 = .ok (.iconst (-1), 1) := by decide +kernel
theorem dX7_shift_23 : decode cX7_shift 23 = .ok (.ireturn, 1) := by decide +kernel
theorem dX7_shift_24 : decode cX7_shift 24 = .ok (.aload_n 0, 1) := by decide +kernel
theorem dX7_shift_25 : decode cX7_shift 25 = .ok (.getfield 54, 3) := by decide +kernel
theorem dX7_shift_28 : decode cX7_shift 28 = .ok (.iload_n 1, 1) := by decide +kernel
theorem dX7_shift_29 : decode cX7_shift 29 = .ok (.invokevirtual 222, 3) := by decide +kernel
theorem dX7_shift_32 : decode cX7_shift 32 = .ok (.ifCond .ne 14, 3) := by decide +kernel
theorem dX7_shift_35 : decode cX7_shift 35 = .ok (.aload_n 0, 1) := by decide +kernel
theorem dX7_shift_36 : decode cX7_shift 36 = .ok (.getfield 54, 3) := by decide +kernel
theorem dX7_shift_39 : decode cX7_shift 39 = .ok (.iload_n 3, 1) := by decide +kernel
theorem dX7_shift_40 : decode cX7_shift 40 = .ok (.invokevirtual 222, 3) := by decide +kernel
theorem dX7_shift_43 : decode cX7_shift 43 = .ok (.ifCond .eq 6, 3) := by decide +kernel
theorem dX7_shift_46 : decode cX7_shift 46 = .ok (.bipush (-11), 2) := by decide +kernel
theorem dX7_shift_48 : decode cX7_shift 48 = .ok (.ireturn, 1) := by decide +kernel
theorem dX7_shift_49 : decode cX7_shift 49 = .ok (.aload_n 0, 1) := by decide +kernel
theorem dX7_shift_50 : decode cX7_shift 50 = .ok (.getfield 54, 3) := by decide +kernel
theorem dX7_shift_53 : decode cX7_shift 53 = .ok (.getfield 273, 3) := by decide +kernel
theorem dX7_shift_56 : decode cX7_shift 56 = .ok (.iload_n 1, 1) := by decide +kernel
theorem dX7_shift_57 : decode cX7_shift 57 = .ok (.iaload, 1) := by decide +kernel
theorem dX7_shift_58 : decode cX7_shift 58 = .ok (.aload_n 0, 1) := by decide +kernel
theorem dX7_shift_59 : decode cX7_shift 59 = .ok (.getfield 54, 3) := by decide +kernel
theorem dX7_shift_62 : decode cX7_shift 62 = .ok (.getfield 273, 3) := by decide +kernel
theorem dX7_shift_65 : decode cX7_shift 65 = .ok (.iload_n 3, 1) := by decide +kernel
theorem dX7_shift_66 : decode cX7_shift 66 = .ok (.iaload, 1) := by decide +kernel
theorem dX7_shift_67 : decode cX7_shift 67 = .ok (.if_icmp .eq 6, 3) := by decide +kernel
theorem dX7_shift_70 : decode cX7_shift 70 = .ok (.bipush (-12), 2) := by decide +kernel
theorem dX7_shift_72 : decode cX7_shift 72 = .ok (.ireturn, 1) := by decide +kernel
theorem dX7_shift_73 : decode cX7_shift 73 = .ok (.aload_n 0, 1) := by decide +kernel
theorem dX7_shift_74 : decode cX7_shift 74 = .ok (.getfield 54, 3) := by decide +kernel
theorem dX7_shift_77 : decode cX7_shift 77 = .ok (.iload_n 1, 1) := by decide +kernel
theorem dX7_shift_78 : decode cX7_shift 78 = .ok (.iload_n 2, 1) := by decide +kernel
theorem dX7_shift_79 : decode cX7_shift 79 = .ok (.iload 5, 2) := by decide +kernel
theorem dX7_shift_81 : decode cX7_shift 81 = .ok (.invokevirtual 276, 3) := by decide +kernel
theorem dX7_shift_84 : decode cX7_shift 84 = .ok (.ifCond .eq 18, 3) := by decide +kernel
theorem dX7_shift_87 : decode cX7_shift 87 = .ok (.aload_n 0, 1) := by decide +kernel
theorem dX7_shift_88 : decode cX7_shift 88 = .ok (.getfield 54, 3) := by decide +kernel
theorem dX7_shift_91 : decode cX7_shift 91 = .ok (.iload_n 3, 1) := by decide +kernel
theorem dX7_shift_92 : decode cX7_shift 92 = .ok (.iload 4, 2) := by decide +kernel
theorem dX7_shift_94 : decode cX7_shift 94 = .ok (.iload 5, 2) := by decide +kernel
theorem dX7_shift_96 : decode cX7_shift 96 = .ok (.invokevirtual 276, 3) := by decide +kernel
theorem dX7_shift_99 : decode cX7_shift 99 = .ok (.ifCond .ne 6, 3) := by decide +kernel
theorem dX7_shift_102 : decode cX7_shift 102 = .ok (.bipush (-13), 2) := by decide +kernel
theorem dX7_shift_104 : decode cX7_shift 104 = .ok (.ireturn, 1) := by decide +kernel
theorem dX7_shift_105 : decode cX7_shift 105 = .ok (.aload_n 0, 1) := by decide +kernel
theorem dX7_shift_106 : decode cX7_shift 106 = .ok (.getfield 54, 3) := by decide +kernel
theorem dX7_shift_109 : decode cX7_shift 109 = .ok (.iload_n 1, 1) := by decide +kernel
theorem dX7_shift_110 : decode cX7_shift 110 = .ok (.iload_n 2, 1) := by decide +kernel
theorem dX7_shift_111 : decode cX7_shift 111 = .ok (.iload_n 3, 1) := by decide +kernel
theorem dX7_shift_112 : decode cX7_shift 112 = .ok (.iload 4, 2) := by decide +kernel
theorem dX7_shift_114 : decode cX7_shift 114 = .ok (.iload 5, 2) := by decide +kernel
theorem dX7_shift_116 : decode cX7_shift 116 = .ok (.invokevirtual 279, 3) := by decide +kernel
theorem dX7_shift_119 : decode cX7_shift 119 = .ok (.iload 5, 2) := by decide +kernel
theorem dX7_shift_121 : decode cX7_shift 121 = .ok (.ireturn, 1) := by decide +kernel
theorem dX7_isPerson_0 : decode cX7_isPerson 0 = .ok (.iload_n 1, 1) := by decide +kernel
theorem dX7_isPerson_1 : decode cX7_isPerson 1 = .ok (.ifCond .lt 21, 3) := by decide +kernel
theorem dX7_isPerson_4 : decode cX7_isPerson 4 = .ok (.iload_n 1, 1) := by decide +kernel
theorem dX7_isPerson_5 : decode cX7_isPerson 5 = .ok (.aload_n 0, 1) := by decide +kernel
theorem dX7_isPerson_6 : decode cX7_isPerson 6 = .ok (.getfield 23, 3) := by decide +kernel
theorem dX7_isPerson_9 : decode cX7_isPerson 9 = .ok (.getfield 62, 3) := by decide +kernel
theorem dX7_isPerson_12 : decode cX7_isPerson 12 = .ok (.getfield 66, 3) := by decide +kernel
theorem dX7_isPerson_15 : decode cX7_isPerson 15 = .ok (.if_icmp .ge 7, 3) := by decide +kernel
theorem dX7_isPerson_18 : decode cX7_isPerson 18 = .ok (.iconst 1, 1) := by decide +kernel
theorem dX7_isPerson_19 : decode cX7_isPerson 19 = .ok (.goto 4, 3) := by decide +kernel
theorem dX7_isPerson_22 : decode cX7_isPerson 22 = .ok (.iconst 0, 1) := by decide +kernel
theorem dX7_isPerson_23 : decode cX7_isPerson 23 = .ok (.ireturn, 1) := by decide +kernel
theorem dX7_isGoneWithout_0 : decode cX7_isGoneWithout 0 = .ok (.aload_n 0, 1) := by decide +kernel
theorem dX7_isGoneWithout_1 : decode cX7_isGoneWithout 1 = .ok (.getfield 27, 3) := by decide +kernel
theorem dX7_isGoneWithout_4 : decode cX7_isGoneWithout 4 = .ok (.aload_n 0, 1) := by decide +kernel
theorem dX7_isGoneWithout_5 : decode cX7_isGoneWithout 5 = .ok (.getfield 23, 3) := by decide +kernel
theorem dX7_isGoneWithout_8 : decode cX7_isGoneWithout 8 = .ok (.invokevirtual 169, 3) := by decide +kernel
theorem dX7_isGoneWithout_11 : decode cX7_isGoneWithout 11 = .ok (.aload_n 0, 1) := by decide +kernel
theorem dX7_isGoneWithout_12 : decode cX7_isGoneWithout 12 = .ok (.getfield 27, 3) := by decide +kernel
theorem dX7_isGoneWithout_15 : decode cX7_isGoneWithout 15 = .ok (.getfield 62, 3) := by decide +kernel
theorem dX7_isGoneWithout_18 : decode cX7_isGoneWithout 18 = .ok (.iload_n 1, 1) := by decide +kernel
theorem dX7_isGoneWithout_19 : decode cX7_isGoneWithout 19 = .ok (.iconst 1, 1) := by decide +kernel
theorem dX7_isGoneWithout_20 : decode cX7_isGoneWithout 20 = .ok (.invokevirtual 110, 3) := by decide +kernel
theorem dX7_isGoneWithout_23 : decode cX7_isGoneWithout 23 = .ok (.aload_n 0, 1) := by decide +kernel
theorem dX7_isGoneWithout_24 : decode cX7_isGoneWithout 24 = .ok (.getfield 27, 3) := by decide +kernel
theorem dX7_isGoneWithout_27 : decode cX7_isGoneWithout 27 = .ok (.iload_n 2, 1) := by decide +kernel
theorem dX7_isGoneWithout_28 : decode cX7_isGoneWithout 28 = .ok (.invokevirtual 165, 3) := by decide +kernel
theorem dX7_isGoneWithout_31 : decode cX7_isGoneWithout 31 = .ok (.aload_n 0, 1) := by decide +kernel
theorem dX7_isGoneWithout_32 : decode cX7_isGoneWithout 32 = .ok (.getfield 27, 3) := by decide +kernel
theorem dX7_isGoneWithout_35 : decode cX7_isGoneWithout 35 = .ok (.invokevirtual 162, 3) := by decide +kernel
theorem dX7_isGoneWithout_38 : decode cX7_isGoneWithout 38 = .ok (.ireturn, 1) := by decide +kernel
theorem dX7_fitting_0 : decode cX7_fitting 0 = .ok (.aload_n 0, 1) := by decide +kernel
theorem dX7_fitting_1 : decode cX7_fitting 1 = .ok (.iload_n 1, 1) := by decide +kernel
theorem dX7_fitting_2 : decode cX7_fitting 2 = .ok (.invokevirtual 76, 3) := by decide +kernel
theorem dX7_fitting_5 : decode cX7_fitting 5 = .ok (.ifCond .eq 12, 3) := by decide +kernel
theorem dX7_fitting_8 : decode cX7_fitting 8 = .ok (.iload_n 2, 1) := by decide +kernel
theorem dX7_fitting_9 : decode cX7_fitting 9 = .ok (.iconst 0, 1) := by decide +kernel
theorem dX7_fitting_10 : decode cX7_fitting 10 = .ok (.iconst 1, 1) := by decide +kernel
theorem dX7_fitting_11 : decode cX7_fitting 11 = .ok (.invokestatic 58, 3) := by decide +kernel
theorem dX7_fitting_14 : decode cX7_fitting 14 = .ok (.ifCond .ne 5, 3) := by decide +kernel
theorem dX7_fitting_17 : decode cX7_fitting 17 = .ok (.iconst (-1), 1) := by decide +kernel
theorem dX7_fitting_18 : decode cX7_fitting 18 = .ok (.ireturn, 1) := by decide +kernel
theorem dX7_fitting_19 : decode cX7_fitting 19 = .ok (.iload_n 3, 1) := by decide +kernel
theorem dX7_fitting_20 : decode cX7_fitting 20 = .ok (.ifCond .eq 8, 3) := by decide +kernel
theorem dX7_fitting_23 : decode cX7_fitting 23 = .ok (.bipush 40, 2) := by decide +kernel
theorem dX7_fitting_25 : decode cX7_fitting 25 = .ok (.goto 5, 3) := by decide +kernel
theorem dX7_fitting_28 : decode cX7_fitting 28 = .ok (.bipush 9, 2) := by decide +kernel
theorem dX7_fitting_30 : decode cX7_fitting 30 = .ok (.istore 4, 2) := by decide +kernel
theorem dX7_fitting_32 : decode cX7_fitting 32 = .ok (.iconst 0, 1) := by decide +kernel
theorem dX7_fitting_33 : decode cX7_fitting 33 = .ok (.istore 5, 2) := by decide +kernel
theorem dX7_fitting_35 : decode cX7_fitting 35 = .ok (.bipush (-5), 2) := by decide +kernel
theorem dX7_fitting_37 : decode cX7_fitting 37 = .ok (.istore 6, 2) := by decide +kernel
theorem dX7_fitting_39 : decode cX7_fitting 39 = .ok (.iconst 0, 1) := by decide +kernel
theorem dX7_fitting_40 : decode cX7_fitting 40 = .ok (.istore 7, 2) := by decide +kernel
theorem dX7_fitting_42 : decode cX7_fitting 42 = .ok (.iload 7, 2) := by decide +kernel
theorem dX7_fitting_44 : decode cX7_fitting 44 = .ok (.iload 4, 2) := by decide +kernel
theorem dX7_fitting_46 : decode cX7_fitting 46 = .ok (.if_icmp .gt 89, 3) := by decide +kernel
theorem dX7_fitting_49 : decode cX7_fitting 49 = .ok (.aload_n 0, 1) := by decide +kernel
theorem dX7_fitting_50 : decode cX7_fitting 50 = .ok (.getfield 27, 3) := by decide +kernel
theorem dX7_fitting_53 : decode cX7_fitting 53 = .ok (.aload_n 0, 1) := by decide +kernel
theorem dX7_fitting_54 : decode cX7_fitting 54 = .ok (.getfield 23, 3) := by decide +kernel
theorem dX7_fitting_57 : decode cX7_fitting 57 = .ok (.invokevirtual 169, 3) := by decide +kernel
theorem dX7_fitting_60 : decode cX7_fitting 60 = .ok (.iload_n 3, 1) := by decide +kernel
theorem dX7_fitting_61 : decode cX7_fitting 61 = .ok (.ifCond .eq 20, 3) := by decide +kernel
theorem dX7_fitting_64 : decode cX7_fitting 64 = .ok (.aload_n 0, 1) := by decide +kernel
theorem dX7_fitting_65 : decode cX7_fitting 65 = .ok (.getfield 27, 3) := by decide +kernel
theorem dX7_fitting_68 : decode cX7_fitting 68 = .ok (.getfield 62, 3) := by decide +kernel
theorem dX7_fitting_71 : decode cX7_fitting 71 = .ok (.getfield 87, 3) := by decide +kernel
theorem dX7_fitting_74 : decode cX7_fitting 74 = .ok (.iload_n 1, 1) := by decide +kernel
theorem dX7_fitting_75 : decode cX7_fitting 75 = .ok (.iload 7, 2) := by decide +kernel
theorem dX7_fitting_77 : decode cX7_fitting 77 = .ok (.iastore, 1) := by decide +kernel
theorem dX7_fitting_78 : decode cX7_fitting 78 = .ok (.goto 17, 3) := by decide +kernel
theorem dX7_fitting_81 : decode cX7_fitting 81 = .ok (.aload_n 0, 1) := by decide +kernel
theorem dX7_fitting_82 : decode cX7_fitting 82 = .ok (.getfield 27, 3) := by decide +kernel
theorem dX7_fitting_85 : decode cX7_fitting 85 = .ok (.getfield 62, 3) := by decide +kernel
theorem dX7_fitting_88 : decode cX7_fitting 88 = .ok (.getfield 84, 3) := by decide +kernel
theorem dX7_fitting_91 : decode cX7_fitting 91 = .ok (.iload_n 1, 1) := by decide +kernel
theorem dX7_fitting_92 : decode cX7_fitting 92 = .ok (.iload 7, 2) := by decide +kernel
theorem dX7_fitting_94 : decode cX7_fitting 94 = .ok (.iastore, 1) := by decide +kernel
theorem dX7_fitting_95 : decode cX7_fitting 95 = .ok (.aload_n 0, 1) := by decide +kernel
theorem dX7_fitting_96 : decode cX7_fitting 96 = .ok (.getfield 27, 3) := by decide +kernel
theorem dX7_fitting_99 : decode cX7_fitting 99 = .ok (.aload_n 0, 1) := by decide +kernel
theorem dX7_fitting_100 : decode cX7_fitting 100 = .ok (.getfield 23, 3) := by decide +kernel
theorem dX7_fitting_103 : decode cX7_fitting 103 = .ok (.getfield 180, 3) := by decide +kernel
theorem dX7_fitting_106 : decode cX7_fitting 106 = .ok (.invokevirtual 283, 3) := by decide +kernel
theorem dX7_fitting_109 : decode cX7_fitting 109 = .ok (.ifCond .eq 20, 3) := by decide +kernel
theorem dX7_fitting_112 : decode cX7_fitting 112 = .ok (.iload 5, 2) := by decide +kernel
theorem dX7_fitting_114 : decode cX7_fitting 114 = .ok (.ifCond .ne 8, 3) := by decide +kernel
theorem dX7_fitting_117 : decode cX7_fitting 117 = .ok (.iload 7, 2) := by decide +kernel
theorem dX7_fitting_119 : decode cX7_fitting 119 = .ok (.goto 5, 3) := by decide +kernel
theorem dX7_fitting_122 : decode cX7_fitting 122 = .ok (.iload 6, 2) := by decide +kernel
theorem dX7_fitting_124 : decode cX7_fitting 124 = .ok (.istore 6, 2) := by decide +kernel
theorem dX7_fitting_126 : decode cX7_fitting 126 = .ok (.iinc 5 1, 3) := by decide +kernel
theorem dX7_fitting_129 : decode cX7_fitting 129 = .ok (.iinc 7 1, 3) := by decide +kernel
theorem dX7_fitting_132 : decode cX7_fitting 132 = .ok (.goto (-90), 3) := by decide +kernel
theorem dX7_fitting_135 : decode cX7_fitting 135 = .ok (.iload_n 2, 1) := by decide +kernel
theorem dX7_fitting_136 : decode cX7_fitting 136 = .ok (.ifCond .ne 8, 3) := by decide +kernel
theorem dX7_fitting_139 : decode cX7_fitting 139 = .ok (.iload 5, 2) := by decide +kernel
theorem dX7_fitting_141 : decode cX7_fitting 141 = .ok (.goto 5, 3) := by decide +kernel
theorem dX7_fitting_144 : decode cX7_fitting 144 = .ok (.iload 6, 2) := by decide +kernel
theorem dX7_fitting_146 : decode cX7_fitting 146 = .ok (.ireturn, 1) := by decide +kernel
theorem dX7_isWithin_0 : decode cX7_isWithin 0 = .ok (.iload_n 0, 1) := by decide +kernel
theorem dX7_isWithin_1 : decode cX7_isWithin 1 = .ok (.iload_n 1, 1) := by decide +kernel
theorem dX7_isWithin_2 : decode cX7_isWithin 2 = .ok (.if_icmp .lt 12, 3) := by decide +kernel
theorem dX7_isWithin_5 : decode cX7_isWithin 5 = .ok (.iload_n 0, 1) := by decide +kernel
theorem dX7_isWithin_6 : decode cX7_isWithin 6 = .ok (.iload_n 2, 1) := by decide +kernel
theorem dX7_isWithin_7 : decode cX7_isWithin 7 = .ok (.if_icmp .gt 7, 3) := by decide +kernel
theorem dX7_isWithin_10 : decode cX7_isWithin 10 = .ok (.iconst 1, 1) := by decide +kernel
theorem dX7_isWithin_11 : decode cX7_isWithin 11 = .ok (.goto 4, 3) := by decide +kernel
theorem dX7_isWithin_14 : decode cX7_isWithin 14 = .ok (.iconst 0, 1) := by decide +kernel
theorem dX7_isWithin_15 : decode cX7_isWithin 15 = .ok (.ireturn, 1) := by decide +kernel
theorem dX7_between_0 : decode cX7_between 0 = .ok (.iload_n 1, 1) := by decide +kernel
theorem dX7_between_1 : decode cX7_between 1 = .ok (.iload_n 2, 1) := by decide +kernel
theorem dX7_between_2 : decode cX7_between 2 = .ok (.iload_n 0, 1) := by decide +kernel
theorem dX7_between_3 : decode cX7_between 3 = .ok (.invokestatic 287, 3) := by decide +kernel
theorem dX7_between_6 : decode cX7_between 6 = .ok (.invokestatic 292, 3) := by decide +kernel
theorem dX7_between_9 : decode cX7_between 9 = .ok (.ireturn, 1) := by decide +kernel
theorem dX7_isUnder_0 : decode cX7_isUnder 0 = .ok (.iload_n 0, 1) := by decide +kernel
theorem dX7_isUnder_1 : decode cX7_isUnder 1 = .ok (.istore_n 2, 1) := by decide +kernel
theorem dX7_isUnder_2 : decode cX7_isUnder 2 = .ok (.iconst 0, 1) := by decide +kernel
theorem dX7_isUnder_3 : decode cX7_isUnder 3 = .ok (.istore_n 3, 1) := by decide +kernel
theorem dX7_isUnder_4 : decode cX7_isUnder 4 = .ok (.iload_n 3, 1) := by decide +kernel
theorem dX7_isUnder_5 : decode cX7_isUnder 5 = .ok (.bipush 7, 2) := by decide +kernel
theorem dX7_isUnder_7 : decode cX7_isUnder 7 = .ok (.if_icmp .ge 32, 3) := by decide +kernel
theorem dX7_isUnder_10 : decode cX7_isUnder 10 = .ok (.iload_n 2, 1) := by decide +kernel
theorem dX7_isUnder_11 : decode cX7_isUnder 11 = .ok (.iconst 0, 1) := by decide +kernel
theorem dX7_isUnder_12 : decode cX7_isUnder 12 = .ok (.bipush 6, 2) := by decide +kernel
theorem dX7_isUnder_14 : decode cX7_isUnder 14 = .ok (.invokestatic 58, 3) := by decide +kernel
theorem dX7_isUnder_17 : decode cX7_isUnder 17 = .ok (.ifCond .eq 22, 3) := by decide +kernel
theorem dX7_isUnder_20 : decode cX7_isUnder 20 = .ok (.iload_n 2, 1) := by decide +kernel
theorem dX7_isUnder_21 : decode cX7_isUnder 21 = .ok (.iload_n 1, 1) := by decide +kernel
theorem dX7_isUnder_22 : decode cX7_isUnder 22 = .ok (.if_icmp .ne 5, 3) := by decide +kernel
theorem dX7_isUnder_25 : decode cX7_isUnder 25 = .ok (.iconst 1, 1) := by decide +kernel
theorem dX7_isUnder_26 : decode cX7_isUnder 26 = .ok (.ireturn, 1) := by decide +kernel
theorem dX7_isUnder_27 : decode cX7_isUnder 27 = .ok (.getstatic 295, 3) := by decide +kernel
theorem dX7_isUnder_30 : decode cX7_isUnder 30 = .ok (.iload_n 2, 1) := by decide +kernel
theorem dX7_isUnder_31 : decode cX7_isUnder 31 = .ok (.iaload, 1) := by decide +kernel
theorem dX7_isUnder_32 : decode cX7_isUnder 32 = .ok (.istore_n 2, 1) := by decide +kernel
theorem dX7_isUnder_33 : decode cX7_isUnder 33 = .ok (.iinc 3 1, 3) := by decide +kernel
theorem dX7_isUnder_36 : decode cX7_isUnder 36 = .ok (.goto (-32), 3) := by decide +kernel
theorem dX7_isUnder_39 : decode cX7_isUnder 39 = .ok (.iconst 0, 1) := by decide +kernel
theorem dX7_isUnder_40 : decode cX7_isUnder 40 = .ok (.ireturn, 1) := by decide +kernel
theorem dX7_lowest_0 : decode cX7_lowest 0 = .ok (.iload_n 2, 1) := by decide +kernel
theorem dX7_lowest_1 : decode cX7_lowest 1 = .ok (.iconst 0, 1) := by decide +kernel
theorem dX7_lowest_2 : decode cX7_lowest 2 = .ok (.iconst 1, 1) := by decide +kernel
theorem dX7_lowest_3 : decode cX7_lowest 3 = .ok (.invokestatic 58, 3) := by decide +kernel
theorem dX7_lowest_6 : decode cX7_lowest 6 = .ok (.ifCond .ne 7, 3) := by decide +kernel
theorem dX7_lowest_9 : decode cX7_lowest 9 = .ok (.ldc2_w 196, 3) := by decide +kernel
theorem dX7_lowest_12 : decode cX7_lowest 12 = .ok (.lreturn, 1) := by decide +kernel
theorem dX7_lowest_13 : decode cX7_lowest 13 = .ok (.iload_n 2, 1) := by decide +kernel
theorem dX7_lowest_14 : decode cX7_lowest 14 = .ok (.ifCond .ne 7, 3) := by decide +kernel
theorem dX7_lowest_17 : decode cX7_lowest 17 = .ok (.iload_n 0, 1) := by decide +kernel
theorem dX7_lowest_18 : decode cX7_lowest 18 = .ok (.goto 4, 3) := by decide +kernel
theorem dX7_lowest_21 : decode cX7_lowest 21 = .ok (.iload_n 1, 1) := by decide +kernel
theorem dX7_lowest_22 : decode cX7_lowest 22 = .ok (.istore_n 3, 1) := by decide +kernel
theorem dX7_lowest_23 : decode cX7_lowest 23 = .ok (.iload_n 1, 1) := by decide +kernel
theorem dX7_lowest_24 : decode cX7_lowest 24 = .ok (.istore 4, 2) := by decide +kernel
theorem dX7_lowest_26 : decode cX7_lowest 26 = .ok (.iload 4, 2) := by decide +kernel
theorem dX7_lowest_28 : decode cX7_lowest 28 = .ok (.iconst 1, 1) := by decide +kernel
theorem dX7_lowest_29 : decode cX7_lowest 29 = .ok (.if_icmp .le 29, 3) := by decide +kernel
theorem dX7_lowest_32 : decode cX7_lowest 32 = .ok (.iload_n 0, 1) := by decide +kernel
theorem dX7_lowest_33 : decode cX7_lowest 33 = .ok (.iload 4, 2) := by decide +kernel
theorem dX7_lowest_35 : decode cX7_lowest 35 = .ok (.irem, 1) := by decide +kernel
theorem dX7_lowest_36 : decode cX7_lowest 36 = .ok (.ifCond .ne 16, 3) := by decide +kernel
theorem dX7_lowest_39 : decode cX7_lowest 39 = .ok (.iload_n 1, 1) := by decide +kernel
theorem dX7_lowest_40 : decode cX7_lowest 40 = .ok (.iload 4, 2) := by decide +kernel
theorem dX7_lowest_42 : decode cX7_lowest 42 = .ok (.irem, 1) := by decide +kernel
theorem dX7_lowest_43 : decode cX7_lowest 43 = .ok (.ifCond .ne 9, 3) := by decide +kernel
theorem dX7_lowest_46 : decode cX7_lowest 46 = .ok (.iload_n 3, 1) := by decide +kernel
theorem dX7_lowest_47 : decode cX7_lowest 47 = .ok (.iload 4, 2) := by decide +kernel
theorem dX7_lowest_49 : decode cX7_lowest 49 = .ok (.idiv, 1) := by decide +kernel
theorem dX7_lowest_50 : decode cX7_lowest 50 = .ok (.i2l, 1) := by decide +kernel
theorem dX7_lowest_51 : decode cX7_lowest 51 = .ok (.lreturn, 1) := by decide +kernel
theorem dX7_lowest_52 : decode cX7_lowest 52 = .ok (.iinc 4 (-1), 3) := by decide +kernel
theorem dX7_lowest_55 : decode cX7_lowest 55 = .ok (.goto (-29), 3) := by decide +kernel
theorem dX7_lowest_58 : decode cX7_lowest 58 = .ok (.iload_n 3, 1) := by decide +kernel
theorem dX7_lowest_59 : decode cX7_lowest 59 = .ok (.i2l, 1) := by decide +kernel
theorem dX7_lowest_60 : decode cX7_lowest 60 = .ok (.lreturn, 1) := by decide +kernel
