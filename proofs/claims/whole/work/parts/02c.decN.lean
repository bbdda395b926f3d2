theorem dX12_key_149 : decode cX12_key 149 = .ok (.dup2, 1) := by decide +kernel
theorem dX12_key_150 : decode cX12_key 150 = .ok (.iaload, 1) := by decide +kernel
theorem dX12_key_151 : decode cX12_key 151 = .ok (.iconst 1, 1) := by decide +kernel
theorem dX12_key_152 : decode cX12_key 152 = .ok (.iadd, 1) := by decide +kernel
theorem dX12_key_153 : decode cX12_key 153 = .ok (.iastore, 1) := by decide +kernel
theorem dX12_key_154 : decode cX12_key 154 = .ok (.aload_n 0, 1) := by decide +kernel
theorem dX12_key_155 : decode cX12_key 155 = .ok (.getfield 65, 3) := by decide +kernel
theorem dX12_key_158 : decode cX12_key 158 = .ok (.iload 4, 2) := by decide +kernel
theorem dX12_key_160 : decode cX12_key 160 = .ok (.iaload, 1) := by decide +kernel
theorem dX12_key_161 : decode cX12_key 161 = .ok (.ireturn, 1) := by decide +kernel
theorem dX12_unkey_0 : decode cX12_unkey 0 = .ok (.aload_n 0, 1) := by decide +kernel
theorem dX12_unkey_1 : decode cX12_unkey 1 = .ok (.aload_n 0, 1) := by decide +kernel
theorem dX12_unkey_2 : decode cX12_unkey 2 = .ok (.iload_n 1, 1) := by decide +kernel
theorem dX12_unkey_3 : decode cX12_unkey 3 = .ok (.invokevirtual 324, 3) := by decide +kernel
theorem dX12_unkey_6 : decode cX12_unkey 6 = .ok (.ifCond .eq 19, 3) := by decide +kernel
theorem dX12_unkey_9 : decode cX12_unkey 9 = .ok (.iload_n 2, 1) := by decide +kernel
theorem dX12_unkey_10 : decode cX12_unkey 10 = .ok (.iconst 0, 1) := by decide +kernel
theorem dX12_unkey_11 : decode cX12_unkey 11 = .ok (.aload_n 0, 1) := by decide +kernel
theorem dX12_unkey_12 : decode cX12_unkey 12 = .ok (.getfield 65, 3) := by decide +kernel
theorem dX12_unkey_15 : decode cX12_unkey 15 = .ok (.iload_n 1, 1) := by decide +kernel
theorem dX12_unkey_16 : decode cX12_unkey 16 = .ok (.iaload, 1) := by decide +kernel
theorem dX12_unkey_17 : decode cX12_unkey 17 = .ok (.iconst 1, 1) := by decide +kernel
theorem dX12_unkey_18 : decode cX12_unkey 18 = .ok (.isub, 1) := by decide +kernel
theorem dX12_unkey_19 : decode cX12_unkey 19 = .ok (.invokestatic 169, 3) := by decide +kernel
theorem dX12_unkey_22 : decode cX12_unkey 22 = .ok (.ifCond .ne 7, 3) := by decide +kernel
theorem dX12_unkey_25 : decode cX12_unkey 25 = .ok (.iconst 1, 1) := by decide +kernel
theorem dX12_unkey_26 : decode cX12_unkey 26 = .ok (.goto 4, 3) := by decide +kernel
theorem dX12_unkey_29 : decode cX12_unkey 29 = .ok (.iconst 0, 1) := by decide +kernel
theorem dX12_unkey_30 : decode cX12_unkey 30 = .ok (.putfield 166, 3) := by decide +kernel
theorem dX12_unkey_33 : decode cX12_unkey 33 = .ok (.aload_n 0, 1) := by decide +kernel
theorem dX12_unkey_34 : decode cX12_unkey 34 = .ok (.getfield 166, 3) := by decide +kernel
theorem dX12_unkey_37 : decode cX12_unkey 37 = .ok (.ifCond .le 5, 3) := by decide +kernel
theorem dX12_unkey_40 : decode cX12_unkey 40 = .ok (.iconst 0, 1) := by decide +kernel
theorem dX12_unkey_41 : decode cX12_unkey 41 = .ok (.ireturn, 1) := by decide +kernel
theorem dX12_unkey_42 : decode cX12_unkey 42 = .ok (.aload_n 0, 1) := by decide +kernel
theorem dX12_unkey_43 : decode cX12_unkey 43 = .ok (.getfield 68, 3) := by decide +kernel
theorem dX12_unkey_46 : decode cX12_unkey 46 = .ok (.bipush 8, 2) := by decide +kernel
theorem dX12_unkey_48 : decode cX12_unkey 48 = .ok (.iload_n 1, 1) := by decide +kernel
theorem dX12_unkey_49 : decode cX12_unkey 49 = .ok (.imul, 1) := by decide +kernel
theorem dX12_unkey_50 : decode cX12_unkey 50 = .ok (.iload_n 2, 1) := by decide +kernel
theorem dX12_unkey_51 : decode cX12_unkey 51 = .ok (.iadd, 1) := by decide +kernel
theorem dX12_unkey_52 : decode cX12_unkey 52 = .ok (.iaload, 1) := by decide +kernel
theorem dX12_unkey_53 : decode cX12_unkey 53 = .ok (.istore_n 3, 1) := by decide +kernel
theorem dX12_unkey_54 : decode cX12_unkey 54 = .ok (.aload_n 0, 1) := by decide +kernel
theorem dX12_unkey_55 : decode cX12_unkey 55 = .ok (.getfield 65, 3) := by decide +kernel
theorem dX12_unkey_58 : decode cX12_unkey 58 = .ok (.iload_n 1, 1) := by decide +kernel
theorem dX12_unkey_59 : decode cX12_unkey 59 = .ok (.dup2, 1) := by decide +kernel
theorem dX12_unkey_60 : decode cX12_unkey 60 = .ok (.iaload, 1) := by decide +kernel
theorem dX12_unkey_61 : decode cX12_unkey 61 = .ok (.iconst 1, 1) := by decide +kernel
theorem dX12_unkey_62 : decode cX12_unkey 62 = .ok (.isub, 1) := by decide +kernel
theorem dX12_unkey_63 : decode cX12_unkey 63 = .ok (.iastore, 1) := by decide +kernel
theorem dX12_unkey_64 : decode cX12_unkey 64 = .ok (.iload_n 2, 1) := by decide +kernel
theorem dX12_unkey_65 : decode cX12_unkey 65 = .ok (.istore 4, 2) := by decide +kernel
theorem dX12_unkey_67 : decode cX12_unkey 67 = .ok (.iload 4, 2) := by decide +kernel
theorem dX12_unkey_69 : decode cX12_unkey 69 = .ok (.aload_n 0, 1) := by decide +kernel
theorem dX12_unkey_70 : decode cX12_unkey 70 = .ok (.getfield 65, 3) := by decide +kernel
theorem dX12_unkey_73 : decode cX12_unkey 73 = .ok (.iload_n 1, 1) := by decide +kernel
theorem dX12_unkey_74 : decode cX12_unkey 74 = .ok (.iaload, 1) := by decide +kernel
theorem dX12_unkey_75 : decode cX12_unkey 75 = .ok (.if_icmp .ge 35, 3) := by decide +kernel
theorem dX12_unkey_78 : decode cX12_unkey 78 = .ok (.aload_n 0, 1) := by decide +kernel
theorem dX12_unkey_79 : decode cX12_unkey 79 = .ok (.getfield 68, 3) := by decide +kernel
theorem dX12_unkey_82 : decode cX12_unkey 82 = .ok (.bipush 8, 2) := by decide +kernel
theorem dX12_unkey_84 : decode cX12_unkey 84 = .ok (.iload_n 1, 1) := by decide +kernel
theorem dX12_unkey_85 : decode cX12_unkey 85 = .ok (.imul, 1) := by decide +kernel
theorem dX12_unkey_86 : decode cX12_unkey 86 = .ok (.iload 4, 2) := by decide +kernel
theorem dX12_unkey_88 : decode cX12_unkey 88 = .ok (.iadd, 1) := by decide +kernel
theorem dX12_unkey_89 : decode cX12_unkey 89 = .ok (.aload_n 0, 1) := by decide +kernel
theorem dX12_unkey_90 : decode cX12_unkey 90 = .ok (.getfield 68, 3) := by decide +kernel
theorem dX12_unkey_93 : decode cX12_unkey 93 = .ok (.bipush 8, 2) := by decide +kernel
theorem dX12_unkey_95 : decode cX12_unkey 95 = .ok (.iload_n 1, 1) := by decide +kernel
theorem dX12_unkey_96 : decode cX12_unkey 96 = .ok (.imul, 1) := by decide +kernel
theorem dX12_unkey_97 : decode cX12_unkey 97 = .ok (.iload 4, 2) := by decide +kernel
theorem dX12_unkey_99 : decode cX12_unkey 99 = .ok (.iadd, 1) := by decide +kernel
theorem dX12_unkey_100 : decode cX12_unkey 100 = .ok (.iconst 1, 1) := by decide +kernel
theorem dX12_unkey_101 : decode cX12_unkey 101 = .ok (.iadd, 1) := by decide +kernel
theorem dX12_unkey_102 : decode cX12_unkey 102 = .ok (.iaload, 1) := by decide +kernel
theorem dX12_unkey_103 : decode cX12_unkey 103 = .ok (.iastore, 1) := by decide +kernel
theorem dX12_unkey_104 : decode cX12_unkey 104 = .ok (.iinc 4 1, 3) := by decide +kernel
theorem dX12_unkey_107 : decode cX12_unkey 107 = .ok (.goto (-40), 3) := by decide +kernel
theorem dX12_unkey_110 : decode cX12_unkey 110 = .ok (.iload_n 3, 1) := by decide +kernel
theorem dX12_unkey_111 : decode cX12_unkey 111 = .ok (.ireturn, 1) := by decide +kernel
theorem dX12_has_0 : decode cX12_has 0 = .ok (.aload_n 0, 1) := by decide +kernel
theorem dX12_has_1 : decode cX12_has 1 = .ok (.getfield 50, 3) := by decide +kernel
theorem dX12_has_4 : decode cX12_has 4 = .ok (.iconst 3, 1) := by decide +kernel
theorem dX12_has_5 : decode cX12_has 5 = .ok (.iload_n 1, 1) := by decide +kernel
theorem dX12_has_6 : decode cX12_has 6 = .ok (.imul, 1) := by decide +kernel
theorem dX12_has_7 : decode cX12_has 7 = .ok (.iload_n 2, 1) := by decide +kernel
theorem dX12_has_8 : decode cX12_has 8 = .ok (.iadd, 1) := by decide +kernel
theorem dX12_has_9 : decode cX12_has 9 = .ok (.iaload, 1) := by decide +kernel
theorem dX12_has_10 : decode cX12_has 10 = .ok (.iload_n 3, 1) := by decide +kernel
theorem dX12_has_11 : decode cX12_has 11 = .ok (.iand, 1) := by decide +kernel
theorem dX12_has_12 : decode cX12_has 12 = .ok (.ifCond .eq 7, 3) := by decide +kernel
theorem dX12_has_15 : decode cX12_has 15 = .ok (.iconst 1, 1) := by decide +kernel
theorem dX12_has_16 : decode cX12_has 16 = .ok (.goto 4, 3) := by decide +kernel
theorem dX12_has_19 : decode cX12_has 19 = .ok (.iconst 0, 1) := by decide +kernel
theorem dX12_has_20 : decode cX12_has 20 = .ok (.ireturn, 1) := by decide +kernel
theorem dX12_sourceOf_0 : decode cX12_sourceOf 0 = .ok (.iload_n 0, 1) := by decide +kernel
theorem dX12_sourceOf_1 : decode cX12_sourceOf 1 = .ok (.bipush 10, 2) := by decide +kernel
theorem dX12_sourceOf_3 : decode cX12_sourceOf 3 = .ok (.isub, 1) := by decide +kernel
theorem dX12_sourceOf_4 : decode cX12_sourceOf 4 = .ok (.iconst 3, 1) := by decide +kernel
theorem dX12_sourceOf_5 : decode cX12_sourceOf 5 = .ok (.idiv, 1) := by decide +kernel
theorem dX12_sourceOf_6 : decode cX12_sourceOf 6 = .ok (.ireturn, 1) := by decide +kernel
theorem dX12_bind_0 : decode cX12_bind 0 = .ok (.aload_n 0, 1) := by decide +kernel
theorem dX12_bind_1 : decode cX12_bind 1 = .ok (.iload_n 1, 1) := by decide +kernel
theorem dX12_bind_2 : decode cX12_bind 2 = .ok (.invokevirtual 324, 3) := by decide +kernel
theorem dX12_bind_5 : decode cX12_bind 5 = .ok (.ifCond .eq 30, 3) := by decide +kernel
theorem dX12_bind_8 : decode cX12_bind 8 = .ok (.iload_n 2, 1) := by decide +kernel
theorem dX12_bind_9 : decode cX12_bind 9 = .ok (.iconst 0, 1) := by decide +kernel
theorem dX12_bind_10 : decode cX12_bind 10 = .ok (.iconst 2, 1) := by decide +kernel
theorem dX12_bind_11 : decode cX12_bind 11 = .ok (.invokestatic 169, 3) := by decide +kernel
theorem dX12_bind_14 : decode cX12_bind 14 = .ok (.ifCond .eq 21, 3) := by decide +kernel
theorem dX12_bind_17 : decode cX12_bind 17 = .ok (.iload_n 3, 1) := by decide +kernel
theorem dX12_bind_18 : decode cX12_bind 18 = .ok (.iconst (-1), 1) := by decide +kernel
theorem dX12_bind_19 : decode cX12_bind 19 = .ok (.bipush 9, 2) := by decide +kernel
theorem dX12_bind_21 : decode cX12_bind 21 = .ok (.iconst 3, 1) := by decide +kernel
theorem dX12_bind_22 : decode cX12_bind 22 = .ok (.iload_n 1, 1) := by decide +kernel
theorem dX12_bind_23 : decode cX12_bind 23 = .ok (.imul, 1) := by decide +kernel
theorem dX12_bind_24 : decode cX12_bind 24 = .ok (.iadd, 1) := by decide +kernel
theorem dX12_bind_25 : decode cX12_bind 25 = .ok (.invokestatic 169, 3) := by decide +kernel
theorem dX12_bind_28 : decode cX12_bind 28 = .ok (.ifCond .eq 7, 3) := by decide +kernel
theorem dX12_bind_31 : decode cX12_bind 31 = .ok (.iconst 1, 1) := by decide +kernel
theorem dX12_bind_32 : decode cX12_bind 32 = .ok (.goto 4, 3) := by decide +kernel
theorem dX12_bind_35 : decode cX12_bind 35 = .ok (.iconst 0, 1) := by decide +kernel
theorem dX12_bind_36 : decode cX12_bind 36 = .ok (.istore 4, 2) := by decide +kernel
theorem dX12_bind_38 : decode cX12_bind 38 = .ok (.aload_n 0, 1) := by decide +kernel
theorem dX12_bind_39 : decode cX12_bind 39 = .ok (.iload 4, 2) := by decide +kernel
theorem dX12_bind_41 : decode cX12_bind 41 = .ok (.ifCond .eq 7, 3) := by decide +kernel
theorem dX12_bind_44 : decode cX12_bind 44 = .ok (.iconst 0, 1) := by decide +kernel
theorem dX12_bind_45 : decode cX12_bind 45 = .ok (.goto 4, 3) := by decide +kernel
theorem dX12_bind_48 : decode cX12_bind 48 = .ok (.iconst 1, 1) := by decide +kernel
theorem dX12_bind_49 : decode cX12_bind 49 = .ok (.putfield 166, 3) := by decide +kernel
theorem dX12_bind_52 : decode cX12_bind 52 = .ok (.aload_n 0, 1) := by decide +kernel
theorem dX12_bind_53 : decode cX12_bind 53 = .ok (.getfield 166, 3) := by decide +kernel
theorem dX12_bind_56 : decode cX12_bind 56 = .ok (.ifCond .le 5, 3) := by decide +kernel
theorem dX12_bind_59 : decode cX12_bind 59 = .ok (.iconst 0, 1) := by decide +kernel
theorem dX12_bind_60 : decode cX12_bind 60 = .ok (.ireturn, 1) := by decide +kernel
theorem dX12_bind_61 : decode cX12_bind 61 = .ok (.aload_n 0, 1) := by decide +kernel
theorem dX12_bind_62 : decode cX12_bind 62 = .ok (.aload_n 0, 1) := by decide +kernel
theorem dX12_bind_63 : decode cX12_bind 63 = .ok (.getfield 62, 3) := by decide +kernel
theorem dX12_bind_66 : decode cX12_bind 66 = .ok (.iload_n 1, 1) := by decide +kernel
theorem dX12_bind_67 : decode cX12_bind 67 = .ok (.iaload, 1) := by decide +kernel
theorem dX12_bind_68 : decode cX12_bind 68 = .ok (.iload_n 2, 1) := by decide +kernel
theorem dX12_bind_69 : decode cX12_bind 69 = .ok (.iconst 2, 1) := by decide +kernel
theorem dX12_bind_70 : decode cX12_bind 70 = .ok (.invokevirtual 330, 3) := by decide +kernel
theorem dX12_bind_73 : decode cX12_bind 73 = .ok (.ifCond .ne 7, 3) := by decide +kernel
theorem dX12_bind_76 : decode cX12_bind 76 = .ok (.iconst 1, 1) := by decide +kernel
theorem dX12_bind_77 : decode cX12_bind 77 = .ok (.goto 4, 3) := by decide +kernel
theorem dX12_bind_80 : decode cX12_bind 80 = .ok (.iconst 0, 1) := by decide +kernel
theorem dX12_bind_81 : decode cX12_bind 81 = .ok (.istore 5, 2) := by decide +kernel
theorem dX12_bind_83 : decode cX12_bind 83 = .ok (.iload_n 3, 1) := by decide +kernel
theorem dX12_bind_84 : decode cX12_bind 84 = .ok (.bipush 10, 2) := by decide +kernel
theorem dX12_bind_86 : decode cX12_bind 86 = .ok (.if_icmp .lt 28, 3) := by decide +kernel
theorem dX12_bind_89 : decode cX12_bind 89 = .ok (.iload 5, 2) := by decide +kernel
theorem dX12_bind_91 : decode cX12_bind 91 = .ok (.aload_n 0, 1) := by decide +kernel
theorem dX12_bind_92 : decode cX12_bind 92 = .ok (.aload_n 0, 1) := by decide +kernel
theorem dX12_bind_93 : decode cX12_bind 93 = .ok (.getfield 62, 3) := by decide +kernel
theorem dX12_bind_96 : decode cX12_bind 96 = .ok (.iload_n 3, 1) := by decide +kernel
theorem dX12_bind_97 : decode cX12_bind 97 = .ok (.invokestatic 333, 3) := by decide +kernel
theorem dX12_bind_100 : decode cX12_bind 100 = .ok (.iaload, 1) := by decide +kernel
theorem dX12_bind_101 : decode cX12_bind 101 = .ok (.iload_n 3, 1) := by decide +kernel
theorem dX12_bind_102 : decode cX12_bind 102 = .ok (.bipush 10, 2) := by decide +kernel
theorem dX12_bind_104 : decode cX12_bind 104 = .ok (.isub, 1) := by decide +kernel
theorem dX12_bind_105 : decode cX12_bind 105 = .ok (.iconst 3, 1) := by decide +kernel
theorem dX12_bind_106 : decode cX12_bind 106 = .ok (.irem, 1) := by decide +kernel
theorem dX12_bind_107 : decode cX12_bind 107 = .ok (.iconst 2, 1) := by decide +kernel
theorem dX12_bind_108 : decode cX12_bind 108 = .ok (.invokevirtual 330, 3) := by decide +kernel
theorem dX12_bind_111 : decode cX12_bind 111 = .ok (.iand, 1) := by decide +kernel
theorem dX12_bind_112 : decode cX12_bind 112 = .ok (.istore 5, 2) := by decide +kernel
theorem dX12_bind_114 : decode cX12_bind 114 = .ok (.aload_n 0, 1) := by decide +kernel
theorem dX12_bind_115 : decode cX12_bind 115 = .ok (.iload 5, 2) := by decide +kernel
theorem dX12_bind_117 : decode cX12_bind 117 = .ok (.ifCond .eq 7, 3) := by decide +kernel
theorem dX12_bind_120 : decode cX12_bind 120 = .ok (.iconst 0, 1) := by decide +kernel
theorem dX12_bind_121 : decode cX12_bind 121 = .ok (.goto 4, 3) := by decide +kernel
theorem dX12_bind_124 : decode cX12_bind 124 = .ok (.iconst 2, 1) := by decide +kernel
theorem dX12_bind_125 : decode cX12_bind 125 = .ok (.putfield 166, 3) := by decide +kernel
theorem dX12_bind_128 : decode cX12_bind 128 = .ok (.aload_n 0, 1) := by decide +kernel
theorem dX12_bind_129 : decode cX12_bind 129 = .ok (.getfield 166, 3) := by decide +kernel
theorem dX12_bind_132 : decode cX12_bind 132 = .ok (.ifCond .le 5, 3) := by decide +kernel
theorem dX12_bind_135 : decode cX12_bind 135 = .ok (.iconst 0, 1) := by decide +kernel
theorem dX12_bind_136 : decode cX12_bind 136 = .ok (.ireturn, 1) := by decide +kernel
theorem dX12_bind_137 : decode cX12_bind 137 = .ok (.aload_n 0, 1) := by decide +kernel
theorem dX12_bind_138 : decode cX12_bind 138 = .ok (.getfield 71, 3) := by decide +kernel
theorem dX12_bind_141 : decode cX12_bind 141 = .ok (.iconst 3, 1) := by decide +kernel
theorem dX12_bind_142 : decode cX12_bind 142 = .ok (.iload_n 1, 1) := by decide +kernel
theorem dX12_bind_143 : decode cX12_bind 143 = .ok (.imul, 1) := by decide +kernel
theorem dX12_bind_144 : decode cX12_bind 144 = .ok (.iload_n 2, 1) := by decide +kernel
theorem dX12_bind_145 : decode cX12_bind 145 = .ok (.iadd, 1) := by decide +kernel
theorem dX12_bind_146 : decode cX12_bind 146 = .ok (.iaload, 1) := by decide +kernel
theorem dX12_bind_147 : decode cX12_bind 147 = .ok (.istore 6, 2) := by decide +kernel
theorem dX12_bind_149 : decode cX12_bind 149 = .ok (.aload_n 0, 1) := by decide +kernel
theorem dX12_bind_150 : decode cX12_bind 150 = .ok (.getfield 71, 3) := by decide +kernel
theorem dX12_bind_153 : decode cX12_bind 153 = .ok (.iconst 3, 1) := by decide +kernel
theorem dX12_bind_154 : decode cX12_bind 154 = .ok (.iload_n 1, 1) := by decide +kernel
theorem dX12_bind_155 : decode cX12_bind 155 = .ok (.imul, 1) := by decide +kernel
theorem dX12_bind_156 : decode cX12_bind 156 = .ok (.iload_n 2, 1) := by decide +kernel
theorem dX12_bind_157 : decode cX12_bind 157 = .ok (.iadd, 1) := by decide +kernel
theorem dX12_bind_158 : decode cX12_bind 158 = .ok (.iload_n 3, 1) := by decide +kernel
theorem dX12_bind_159 : decode cX12_bind 159 = .ok (.iastore, 1) := by decide +kernel
theorem dX12_bind_160 : decode cX12_bind 160 = .ok (.iload 6, 2) := by decide +kernel
theorem dX12_bind_162 : decode cX12_bind 162 = .ok (.ireturn, 1) := by decide +kernel
theorem dX12_turned_0 : decode cX12_turned 0 = .ok (.iload_n 1, 1) := by decide +kernel
theorem dX12_turned_1 : decode cX12_turned 1 = .ok (.bipush 10, 2) := by decide +kernel
theorem dX12_turned_3 : decode cX12_turned 3 = .ok (.if_icmp .lt 26, 3) := by decide +kernel
theorem dX12_turned_6 : decode cX12_turned 6 = .ok (.aload_n 0, 1) := by decide +kernel
theorem dX12_turned_7 : decode cX12_turned 7 = .ok (.getfield 62, 3) := by decide +kernel
theorem dX12_turned_10 : decode cX12_turned 10 = .ok (.iload_n 1, 1) := by decide +kernel
theorem dX12_turned_11 : decode cX12_turned 11 = .ok (.invokestatic 333, 3) := by decide +kernel
theorem dX12_turned_14 : decode cX12_turned 14 = .ok (.iaload, 1) := by decide +kernel
theorem dX12_turned_15 : decode cX12_turned 15 = .ok (.iload_n 2, 1) := by decide +kernel
theorem dX12_turned_16 : decode cX12_turned 16 = .ok (.if_icmp .ne 13, 3) := by decide +kernel
theorem dX12_turned_19 : decode cX12_turned 19 = .ok (.iload_n 1, 1) := by decide +kernel
theorem dX12_turned_20 : decode cX12_turned 20 = .ok (.bipush 10, 2) := by decide +kernel
theorem dX12_turned_22 : decode cX12_turned 22 = .ok (.isub, 1) := by decide +kernel
theorem dX12_turned_23 : decode cX12_turned 23 = .ok (.iconst 3, 1) := by decide +kernel
theorem dX12_turned_24 : decode cX12_turned 24 = .ok (.irem, 1) := by decide +kernel
theorem dX12_turned_25 : decode cX12_turned 25 = .ok (.iconst 2, 1) := by decide +kernel
theorem dX12_turned_26 : decode cX12_turned 26 = .ok (.if_icmp .ne 5, 3) := by decide +kernel
theorem dX12_turned_29 : decode cX12_turned 29 = .ok (.iload_n 1, 1) := by decide +kernel
theorem dX12_turned_30 : decode cX12_turned 30 = .ok (.ireturn, 1) := by decide +kernel
theorem dX12_turned_31 : decode cX12_turned 31 = .ok (.iload_n 1, 1) := by decide +kernel
theorem dX12_turned_32 : decode cX12_turned 32 = .ok (.bipush 10, 2) := by decide +kernel
theorem dX12_turned_34 : decode cX12_turned 34 = .ok (.isub, 1) := by decide +kernel
theorem dX12_turned_35 : decode cX12_turned 35 = .ok (.iconst 3, 1) := by decide +kernel
theorem dX12_turned_36 : decode cX12_turned 36 = .ok (.irem, 1) := by decide +kernel
theorem dX12_turned_37 : decode cX12_turned 37 = .ok (.ifCond .ne 9, 3) := by decide +kernel
theorem dX12_turned_40 : decode cX12_turned 40 = .ok (.iload_n 1, 1) := by decide +kernel
theorem dX12_turned_41 : decode cX12_turned 41 = .ok (.iconst 1, 1) := by decide +kernel
theorem dX12_turned_42 : decode cX12_turned 42 = .ok (.iadd, 1) := by decide +kernel
theorem dX12_turned_43 : decode cX12_turned 43 = .ok (.goto 6, 3) := by decide +kernel
theorem dX12_turned_46 : decode cX12_turned 46 = .ok (.iload_n 1, 1) := by decide +kernel
theorem dX12_turned_47 : decode cX12_turned 47 = .ok (.iconst 1, 1) := by decide +kernel
theorem dX12_turned_48 : decode cX12_turned 48 = .ok (.isub, 1) := by decide +kernel
theorem dX12_turned_49 : decode cX12_turned 49 = .ok (.ireturn, 1) := by decide +kernel
theorem dX12_changes_0 : decode cX12_changes 0 = .ok (.aload_n 1, 1) := by decide +kernel
theorem dX12_changes_1 : decode cX12_changes 1 = .ok (.iload_n 2, 1) := by decide +kernel
theorem dX12_changes_2 : decode cX12_changes 2 = .ok (.iaload, 1) := by decide +kernel
theorem dX12_changes_3 : decode cX12_changes 3 = .ok (.istore_n 3, 1) := by decide +kernel
theorem dX12_changes_4 : decode cX12_changes 4 = .ok (.aload_n 1, 1) := by decide +kernel
theorem dX12_changes_5 : decode cX12_changes 5 = .ok (.iload_n 2, 1) := by decide +kernel
theorem dX12_changes_6 : decode cX12_changes 6 = .ok (.iconst 2, 1) := by decide +kernel
theorem dX12_changes_7 : decode cX12_changes 7 = .ok (.aload_n 1, 1) := by decide +kernel
theorem dX12_changes_8 : decode cX12_changes 8 = .ok (.iload_n 2, 1) := by decide +kernel
theorem dX12_changes_9 : decode cX12_changes 9 = .ok (.iconst 1, 1) := by decide +kernel
theorem dX12_changes_10 : decode cX12_changes 10 = .ok (.iadd, 1) := by decide +kernel
theorem dX12_changes_11 : decode cX12_changes 11 = .ok (.iaload, 1) := by decide +kernel
theorem dX12_changes_12 : decode cX12_changes 12 = .ok (.imul, 1) := by decide +kernel
theorem dX12_changes_13 : decode cX12_changes 13 = .ok (.iastore, 1) := by decide +kernel
theorem dX12_changes_14 : decode cX12_changes 14 = .ok (.aload_n 1, 1) := by decide +kernel
theorem dX12_changes_15 : decode cX12_changes 15 = .ok (.iload_n 2, 1) := by decide +kernel
theorem dX12_changes_16 : decode cX12_changes 16 = .ok (.iconst 1, 1) := by decide +kernel
theorem dX12_changes_17 : decode cX12_changes 17 = .ok (.iadd, 1) := by decide +kernel
theorem dX12_changes_18 : decode cX12_changes 18 = .ok (.iconst 2, 1) := by decide +kernel
theorem dX12_changes_19 : decode cX12_changes 19 = .ok (.iload_n 3, 1) := by decide +kernel
theorem dX12_changes_20 : decode cX12_changes 20 = .ok (.imul, 1) := by decide +kernel
theorem dX12_changes_21 : decode cX12_changes 21 = .ok (.iastore, 1) := by decide +kernel
theorem dX12_changes_22 : decode cX12_changes 22 = .ok (.aload_n 1, 1) := by decide +kernel
theorem dX12_changes_23 : decode cX12_changes 23 = .ok (.iload_n 2, 1) := by decide +kernel
theorem dX12_changes_24 : decode cX12_changes 24 = .ok (.iconst 2, 1) := by decide +kernel
theorem dX12_changes_25 : decode cX12_changes 25 = .ok (.iadd, 1) := by decide +kernel
theorem dX12_changes_26 : decode cX12_changes 26 = .ok (.iconst 2, 1) := by decide +kernel
theorem dX12_changes_27 : decode cX12_changes 27 = .ok (.aload_n 1, 1) := by decide +kernel
theorem dX12_changes_28 : decode cX12_changes 28 = .ok (.iload_n 2, 1) := by decide +kernel
theorem dX12_changes_29 : decode cX12_changes 29 = .ok (.iconst 2, 1) := by decide +kernel
theorem dX12_changes_30 : decode cX12_changes 30 = .ok (.iadd, 1) := by decide +kernel
theorem dX12_changes_31 : decode cX12_changes 31 = .ok (.iaload, 1) := by decide +kernel
theorem dX12_changes_32 : decode cX12_changes 32 = .ok (.imul, 1) := by decide +kernel
theorem dX12_changes_33 : decode cX12_changes 33 = .ok (.iastore, 1) := by decide +kernel
theorem dX12_changes_34 : decode cX12_changes 34 = .ok (.return_, 1) := by decide +kernel
theorem dX12_upgrade_0 : decode cX12_upgrade 0 = .ok (.aload_n 0, 1) := by decide +kernel
theorem dX12_upgrade_1 : decode cX12_upgrade 1 = .ok (.iload_n 1, 1) := by decide +kernel
theorem dX12_upgrade_2 : decode cX12_upgrade 2 = .ok (.invokestatic 318, 3) := by decide +kernel
theorem dX12_upgrade_5 : decode cX12_upgrade 5 = .ok (.ifCond .ne 7, 3) := by decide +kernel
theorem dX12_upgrade_8 : decode cX12_upgrade 8 = .ok (.iconst 1, 1) := by decide +kernel
theorem dX12_upgrade_9 : decode cX12_upgrade 9 = .ok (.goto 25, 3) := by decide +kernel
theorem dX12_upgrade_12 : decode cX12_upgrade 12 = .ok (.aload_n 0, 1) := by decide +kernel
theorem dX12_upgrade_13 : decode cX12_upgrade 13 = .ok (.getfield 59, 3) := by decide +kernel
theorem dX12_upgrade_16 : decode cX12_upgrade 16 = .ok (.iload_n 1, 1) := by decide +kernel
theorem dX12_upgrade_17 : decode cX12_upgrade 17 = .ok (.iaload, 1) := by decide +kernel
theorem dX12_upgrade_18 : decode cX12_upgrade 18 = .ok (.iconst 2, 1) := by decide +kernel
theorem dX12_upgrade_19 : decode cX12_upgrade 19 = .ok (.if_icmp .eq 10, 3) := by decide +kernel
theorem dX12_upgrade_22 : decode cX12_upgrade 22 = .ok (.aload_n 0, 1) := by decide +kernel
theorem dX12_upgrade_23 : decode cX12_upgrade 23 = .ok (.getfield 123, 3) := by decide +kernel
theorem dX12_upgrade_26 : decode cX12_upgrade 26 = .ok (.ifCond .lt 7, 3) := by decide +kernel
theorem dX12_upgrade_29 : decode cX12_upgrade 29 = .ok (.iconst 2, 1) := by decide +kernel
theorem dX12_upgrade_30 : decode cX12_upgrade 30 = .ok (.goto 4, 3) := by decide +kernel
theorem dX12_upgrade_33 : decode cX12_upgrade 33 = .ok (.iconst 0, 1) := by decide +kernel
theorem dX12_upgrade_34 : decode cX12_upgrade 34 = .ok (.putfield 166, 3) := by decide +kernel
theorem dX12_upgrade_37 : decode cX12_upgrade 37 = .ok (.aload_n 0, 1) := by decide +kernel
theorem dX12_upgrade_38 : decode cX12_upgrade 38 = .ok (.getfield 166, 3) := by decide +kernel
theorem dX12_upgrade_41 : decode cX12_upgrade 41 = .ok (.ifCond .le 5, 3) := by decide +kernel
theorem dX12_upgrade_44 : decode cX12_upgrade 44 = .ok (.iconst 0, 1) := by decide +kernel
theorem dX12_upgrade_45 : decode cX12_upgrade 45 = .ok (.ireturn, 1) := by decide +kernel
theorem dX12_upgrade_46 : decode cX12_upgrade 46 = .ok (.aload_n 0, 1) := by decide +kernel
theorem dX12_upgrade_47 : decode cX12_upgrade 47 = .ok (.getfield 59, 3) := by decide +kernel
theorem dX12_upgrade_50 : decode cX12_upgrade 50 = .ok (.iload_n 1, 1) := by decide +kernel
theorem dX12_upgrade_51 : decode cX12_upgrade 51 = .ok (.dup2, 1) := by decide +kernel
theorem dX12_upgrade_52 : decode cX12_upgrade 52 = .ok (.iaload, 1) := by decide +kernel
theorem dX12_upgrade_53 : decode cX12_upgrade 53 = .ok (.iconst 1, 1) := by decide +kernel
theorem dX12_upgrade_54 : decode cX12_upgrade 54 = .ok (.iadd, 1) := by decide +kernel
theorem dX12_upgrade_55 : decode cX12_upgrade 55 = .ok (.iastore, 1) := by decide +kernel
theorem dX12_upgrade_56 : decode cX12_upgrade 56 = .ok (.aload_n 0, 1) := by decide +kernel
theorem dX12_upgrade_57 : decode cX12_upgrade 57 = .ok (.getfield 50, 3) := by decide +kernel
theorem dX12_upgrade_60 : decode cX12_upgrade 60 = .ok (.iconst 3, 1) := by decide +kernel
theorem dX12_upgrade_61 : decode cX12_upgrade 61 = .ok (.iload_n 1, 1) := by decide +kernel
theorem dX12_upgrade_62 : decode cX12_upgrade 62 = .ok (.imul, 1) := by decide +kernel
theorem dX12_upgrade_63 : decode cX12_upgrade 63 = .ok (.iaload, 1) := by decide +kernel
theorem dX12_upgrade_64 : decode cX12_upgrade 64 = .ok (.istore_n 2, 1) := by decide +kernel
theorem dX12_upgrade_65 : decode cX12_upgrade 65 = .ok (.aload_n 0, 1) := by decide +kernel
theorem dX12_upgrade_66 : decode cX12_upgrade 66 = .ok (.getfield 50, 3) := by decide +kernel
theorem dX12_upgrade_69 : decode cX12_upgrade 69 = .ok (.iconst 3, 1) := by decide +kernel
theorem dX12_upgrade_70 : decode cX12_upgrade 70 = .ok (.iload_n 1, 1) := by decide +kernel
theorem dX12_upgrade_71 : decode cX12_upgrade 71 = .ok (.imul, 1) := by decide +kernel
theorem dX12_upgrade_72 : decode cX12_upgrade 72 = .ok (.aload_n 0, 1) := by decide +kernel
theorem dX12_upgrade_73 : decode cX12_upgrade 73 = .ok (.getfield 50, 3) := by decide +kernel
theorem dX12_upgrade_76 : decode cX12_upgrade 76 = .ok (.iconst 3, 1) := by decide +kernel
theorem dX12_upgrade_77 : decode cX12_upgrade 77 = .ok (.iload_n 1, 1) := by decide +kernel
theorem dX12_upgrade_78 : decode cX12_upgrade 78 = .ok (.imul, 1) := by decide +kernel
theorem dX12_upgrade_79 : decode cX12_upgrade 79 = .ok (.iconst 1, 1) := by decide +kernel
theorem dX12_upgrade_80 : decode cX12_upgrade 80 = .ok (.iadd, 1) := by decide +kernel
theorem dX12_upgrade_81 : decode cX12_upgrade 81 = .ok (.iaload, 1) := by decide +kernel
theorem dX12_upgrade_82 : decode cX12_upgrade 82 = .ok (.iastore, 1) := by decide +kernel
theorem dX12_upgrade_83 : decode cX12_upgrade 83 = .ok (.aload_n 0, 1) := by decide +kernel
theorem dX12_upgrade_84 : decode cX12_upgrade 84 = .ok (.getfield 50, 3) := by decide +kernel
theorem dX12_upgrade_87 : decode cX12_upgrade 87 = .ok (.iconst 3, 1) := by decide +kernel
theorem dX12_upgrade_88 : decode cX12_upgrade 88 = .ok (.iload_n 1, 1) := by decide +kernel
theorem dX12_upgrade_89 : decode cX12_upgrade 89 = .ok (.imul, 1) := by decide +kernel
theorem dX12_upgrade_90 : decode cX12_upgrade 90 = .ok (.iconst 1, 1) := by decide +kernel
theorem dX12_upgrade_91 : decode cX12_upgrade 91 = .ok (.iadd, 1) := by decide +kernel
theorem dX12_upgrade_92 : decode cX12_upgrade 92 = .ok (.iload_n 2, 1) := by decide +kernel
theorem dX12_upgrade_93 : decode cX12_upgrade 93 = .ok (.iastore, 1) := by decide +kernel
theorem dX12_upgrade_94 : decode cX12_upgrade 94 = .ok (.iconst 0, 1) := by decide +kernel
theorem dX12_upgrade_95 : decode cX12_upgrade 95 = .ok (.istore_n 3, 1) := by decide +kernel
theorem dX12_upgrade_96 : decode cX12_upgrade 96 = .ok (.iload_n 3, 1) := by decide +kernel
theorem dX12_upgrade_97 : decode cX12_upgrade 97 = .ok (.aload_n 0, 1) := by decide +kernel
theorem dX12_upgrade_98 : decode cX12_upgrade 98 = .ok (.getfield 312, 3) := by decide +kernel
theorem dX12_upgrade_101 : decode cX12_upgrade 101 = .ok (.if_icmp .ge 189, 3) := by decide +kernel
theorem dX12_upgrade_104 : decode cX12_upgrade 104 = .ok (.iconst 0, 1) := by decide +kernel
theorem dX12_upgrade_105 : decode cX12_upgrade 105 = .ok (.istore 4, 2) := by decide +kernel
theorem dX12_upgrade_107 : decode cX12_upgrade 107 = .ok (.iload 4, 2) := by decide +kernel
theorem dX12_upgrade_109 : decode cX12_upgrade 109 = .ok (.iconst 3, 1) := by decide +kernel
theorem dX12_upgrade_110 : decode cX12_upgrade 110 = .ok (.if_icmp .ge 36, 3) := by decide +kernel
theorem dX12_upgrade_113 : decode cX12_upgrade 113 = .ok (.aload_n 0, 1) := by decide +kernel
theorem dX12_upgrade_114 : decode cX12_upgrade 114 = .ok (.getfield 71, 3) := by decide +kernel
theorem dX12_upgrade_117 : decode cX12_upgrade 117 = .ok (.iconst 3, 1) := by decide +kernel
theorem dX12_upgrade_118 : decode cX12_upgrade 118 = .ok (.iload_n 3, 1) := by decide +kernel
theorem dX12_upgrade_119 : decode cX12_upgrade 119 = .ok (.imul, 1) := by decide +kernel
theorem dX12_upgrade_120 : decode cX12_upgrade 120 = .ok (.iload 4, 2) := by decide +kernel
theorem dX12_upgrade_122 : decode cX12_upgrade 122 = .ok (.iadd, 1) := by decide +kernel
theorem dX12_upgrade_123 : decode cX12_upgrade 123 = .ok (.aload_n 0, 1) := by decide +kernel
theorem dX12_upgrade_124 : decode cX12_upgrade 124 = .ok (.aload_n 0, 1) := by decide +kernel
theorem dX12_upgrade_125 : decode cX12_upgrade 125 = .ok (.getfield 71, 3) := by decide +kernel
theorem dX12_upgrade_128 : decode cX12_upgrade 128 = .ok (.iconst 3, 1) := by decide +kernel
theorem dX12_upgrade_129 : decode cX12_upgrade 129 = .ok (.iload_n 3, 1) := by decide +kernel
theorem dX12_upgrade_130 : decode cX12_upgrade 130 = .ok (.imul, 1) := by decide +kernel
theorem dX12_upgrade_131 : decode cX12_upgrade 131 = .ok (.iload 4, 2) := by decide +kernel
theorem dX12_upgrade_133 : decode cX12_upgrade 133 = .ok (.iadd, 1) := by decide +kernel
theorem dX12_upgrade_134 : decode cX12_upgrade 134 = .ok (.iaload, 1) := by decide +kernel
theorem dX12_upgrade_135 : decode cX12_upgrade 135 = .ok (.iload_n 1, 1) := by decide +kernel
theorem dX12_upgrade_136 : decode cX12_upgrade 136 = .ok (.invokevirtual 336, 3) := by decide +kernel
theorem dX12_upgrade_139 : decode cX12_upgrade 139 = .ok (.iastore, 1) := by decide +kernel
theorem dX12_upgrade_140 : decode cX12_upgrade 140 = .ok (.iinc 4 1, 3) := by decide +kernel
theorem dX12_upgrade_143 : decode cX12_upgrade 143 = .ok (.goto (-36), 3) := by decide +kernel
theorem dX12_upgrade_146 : decode cX12_upgrade 146 = .ok (.aload_n 0, 1) := by decide +kernel
theorem dX12_upgrade_147 : decode cX12_upgrade 147 = .ok (.getfield 62, 3) := by decide +kernel
theorem dX12_upgrade_150 : decode cX12_upgrade 150 = .ok (.iload_n 3, 1) := by decide +kernel
theorem dX12_upgrade_151 : decode cX12_upgrade 151 = .ok (.iaload, 1) := by decide +kernel
theorem dX12_upgrade_152 : decode cX12_upgrade 152 = .ok (.iload_n 1, 1) := by decide +kernel
theorem dX12_upgrade_153 : decode cX12_upgrade 153 = .ok (.if_icmp .ne 131, 3) := by decide +kernel
theorem dX12_upgrade_156 : decode cX12_upgrade 156 = .ok (.aload_n 0, 1) := by decide +kernel
theorem dX12_upgrade_157 : decode cX12_upgrade 157 = .ok (.getfield 71, 3) := by decide +kernel
theorem dX12_upgrade_160 : decode cX12_upgrade 160 = .ok (.iconst 3, 1) := by decide +kernel
theorem dX12_upgrade_161 : decode cX12_upgrade 161 = .ok (.iload_n 3, 1) := by decide +kernel
theorem dX12_upgrade_162 : decode cX12_upgrade 162 = .ok (.imul, 1) := by decide +kernel
theorem dX12_upgrade_163 : decode cX12_upgrade 163 = .ok (.iaload, 1) := by decide +kernel
theorem dX12_upgrade_164 : decode cX12_upgrade 164 = .ok (.istore 4, 2) := by decide +kernel
theorem dX12_upgrade_166 : decode cX12_upgrade 166 = .ok (.aload_n 0, 1) := by decide +kernel
theorem dX12_upgrade_167 : decode cX12_upgrade 167 = .ok (.getfield 71, 3) := by decide +kernel
theorem dX12_upgrade_170 : decode cX12_upgrade 170 = .ok (.iconst 3, 1) := by decide +kernel
theorem dX12_upgrade_171 : decode cX12_upgrade 171 = .ok (.iload_n 3, 1) := by decide +kernel
theorem dX12_upgrade_172 : decode cX12_upgrade 172 = .ok (.imul, 1) := by decide +kernel
theorem dX12_upgrade_173 : decode cX12_upgrade 173 = .ok (.aload_n 0, 1) := by decide +kernel
theorem dX12_upgrade_174 : decode cX12_upgrade 174 = .ok (.getfield 71, 3) := by decide +kernel
theorem dX12_upgrade_177 : decode cX12_upgrade 177 = .ok (.iconst 3, 1) := by decide +kernel
theorem dX12_upgrade_178 : decode cX12_upgrade 178 = .ok (.iload_n 3, 1) := by decide +kernel
theorem dX12_upgrade_179 : decode cX12_upgrade 179 = .ok (.imul, 1) := by decide +kernel
theorem dX12_upgrade_180 : decode cX12_upgrade 180 = .ok (.iconst 1, 1) := by decide +kernel
theorem dX12_upgrade_181 : decode cX12_upgrade 181 = .ok (.iadd, 1) := by decide +kernel
theorem dX12_upgrade_182 : decode cX12_upgrade 182 = .ok (.iaload, 1) := by decide +kernel
theorem dX12_upgrade_183 : decode cX12_upgrade 183 = .ok (.iastore, 1) := by decide +kernel
theorem dX12_upgrade_184 : decode cX12_upgrade 184 = .ok (.aload_n 0, 1) := by decide +kernel
theorem dX12_upgrade_185 : decode cX12_upgrade 185 = .ok (.getfield 71, 3) := by decide +kernel
theorem dX12_upgrade_188 : decode cX12_upgrade 188 = .ok (.iconst 3, 1) := by decide +kernel
theorem dX12_upgrade_189 : decode cX12_upgrade 189 = .ok (.iload_n 3, 1) := by decide +kernel
theorem dX12_upgrade_190 : decode cX12_upgrade 190 = .ok (.imul, 1) := by decide +kernel
theorem dX12_upgrade_191 : decode cX12_upgrade 191 = .ok (.iconst 1, 1) := by decide +kernel
theorem dX12_upgrade_192 : decode cX12_upgrade 192 = .ok (.iadd, 1) := by decide +kernel
theorem dX12_upgrade_193 : decode cX12_upgrade 193 = .ok (.iload 4, 2) := by decide +kernel
theorem dX12_upgrade_195 : decode cX12_upgrade 195 = .ok (.iastore, 1) := by decide +kernel
theorem dX12_upgrade_196 : decode cX12_upgrade 196 = .ok (.bipush 16, 2) := by decide +kernel
theorem dX12_upgrade_198 : decode cX12_upgrade 198 = .ok (.iload_n 3, 1) := by decide +kernel
theorem dX12_upgrade_199 : decode cX12_upgrade 199 = .ok (.imul, 1) := by decide +kernel
theorem dX12_upgrade_200 : decode cX12_upgrade 200 = .ok (.istore 5, 2) := by decide +kernel
theorem dX12_upgrade_202 : decode cX12_upgrade 202 = .ok (.iload 5, 2) := by decide +kernel
theorem dX12_upgrade_204 : decode cX12_upgrade 204 = .ok (.bipush 16, 2) := by decide +kernel
theorem dX12_upgrade_206 : decode cX12_upgrade 206 = .ok (.iload_n 3, 1) := by decide +kernel
theorem dX12_upgrade_207 : decode cX12_upgrade 207 = .ok (.imul, 1) := by decide +kernel
theorem dX12_upgrade_208 : decode cX12_upgrade 208 = .ok (.bipush 16, 2) := by decide +kernel
theorem dX12_upgrade_210 : decode cX12_upgrade 210 = .ok (.iadd, 1) := by decide +kernel
theorem dX12_upgrade_211 : decode cX12_upgrade 211 = .ok (.if_icmp .ge 73, 3) := by decide +kernel
theorem dX12_upgrade_214 : decode cX12_upgrade 214 = .ok (.aload_n 0, 1) := by decide +kernel
theorem dX12_upgrade_215 : decode cX12_upgrade 215 = .ok (.aload_n 0, 1) := by decide +kernel
theorem dX12_upgrade_216 : decode cX12_upgrade 216 = .ok (.getfield 86, 3) := by decide +kernel
theorem dX12_upgrade_219 : decode cX12_upgrade 219 = .ok (.iconst 3, 1) := by decide +kernel
theorem dX12_upgrade_220 : decode cX12_upgrade 220 = .ok (.iload 5, 2) := by decide +kernel
theorem dX12_upgrade_222 : decode cX12_upgrade 222 = .ok (.imul, 1) := by decide +kernel
theorem dX12_upgrade_223 : decode cX12_upgrade 223 = .ok (.invokevirtual 339, 3) := by decide +kernel
theorem dX12_upgrade_226 : decode cX12_upgrade 226 = .ok (.aload_n 0, 1) := by decide +kernel
theorem dX12_upgrade_227 : decode cX12_upgrade 227 = .ok (.aload_n 0, 1) := by decide +kernel
theorem dX12_upgrade_228 : decode cX12_upgrade 228 = .ok (.getfield 95, 3) := by decide +kernel
theorem dX12_upgrade_231 : decode cX12_upgrade 231 = .ok (.iconst 3, 1) := by decide +kernel
theorem dX12_upgrade_232 : decode cX12_upgrade 232 = .ok (.iload 5, 2) := by decide +kernel
theorem dX12_upgrade_234 : decode cX12_upgrade 234 = .ok (.imul, 1) := by decide +kernel
theorem dX12_upgrade_235 : decode cX12_upgrade 235 = .ok (.invokevirtual 339, 3) := by decide +kernel
theorem dX12_upgrade_238 : decode cX12_upgrade 238 = .ok (.aload_n 0, 1) := by decide +kernel
theorem dX12_upgrade_239 : decode cX12_upgrade 239 = .ok (.getfield 92, 3) := by decide +kernel
theorem dX12_upgrade_242 : decode cX12_upgrade 242 = .ok (.iload 5, 2) := by decide +kernel
theorem dX12_upgrade_244 : decode cX12_upgrade 244 = .ok (.aload_n 0, 1) := by decide +kernel
theorem dX12_upgrade_245 : decode cX12_upgrade 245 = .ok (.getfield 92, 3) := by decide +kernel
theorem dX12_upgrade_248 : decode cX12_upgrade 248 = .ok (.iload 5, 2) := by decide +kernel
theorem dX12_upgrade_250 : decode cX12_upgrade 250 = .ok (.iaload, 1) := by decide +kernel
theorem dX12_upgrade_251 : decode cX12_upgrade 251 = .ok (.iconst 4, 1) := by decide +kernel
theorem dX12_upgrade_252 : decode cX12_upgrade 252 = .ok (.iand, 1) := by decide +kernel
theorem dX12_upgrade_253 : decode cX12_upgrade 253 = .ok (.aload_n 0, 1) := by decide +kernel
theorem dX12_upgrade_254 : decode cX12_upgrade 254 = .ok (.getfield 92, 3) := by decide +kernel
theorem dX12_upgrade_257 : decode cX12_upgrade 257 = .ok (.iload 5, 2) := by decide +kernel
theorem dX12_upgrade_259 : decode cX12_upgrade 259 = .ok (.iaload, 1) := by decide +kernel
theorem dX12_upgrade_260 : decode cX12_upgrade 260 = .ok (.iconst 1, 1) := by decide +kernel
theorem dX12_upgrade_261 : decode cX12_upgrade 261 = .ok (.iand, 1) := by decide +kernel
theorem dX12_upgrade_262 : decode cX12_upgrade 262 = .ok (.iconst 1, 1) := by decide +kernel
theorem dX12_upgrade_263 : decode cX12_upgrade 263 = .ok (.ishl, 1) := by decide +kernel
theorem dX12_upgrade_264 : decode cX12_upgrade 264 = .ok (.ior, 1) := by decide +kernel
theorem dX12_upgrade_265 : decode cX12_upgrade 265 = .ok (.aload_n 0, 1) := by decide +kernel
theorem dX12_upgrade_266 : decode cX12_upgrade 266 = .ok (.getfield 92, 3) := by decide +kernel
theorem dX12_upgrade_269 : decode cX12_upgrade 269 = .ok (.iload 5, 2) := by decide +kernel
theorem dX12_upgrade_271 : decode cX12_upgrade 271 = .ok (.iaload, 1) := by decide +kernel
theorem dX12_upgrade_272 : decode cX12_upgrade 272 = .ok (.iconst 1, 1) := by decide +kernel
theorem dX12_upgrade_273 : decode cX12_upgrade 273 = .ok (.ishr, 1) := by decide +kernel
theorem dX12_upgrade_274 : decode cX12_upgrade 274 = .ok (.iconst 1, 1) := by decide +kernel
theorem dX12_upgrade_275 : decode cX12_upgrade 275 = .ok (.iand, 1) := by decide +kernel
theorem dX12_upgrade_276 : decode cX12_upgrade 276 = .ok (.ior, 1) := by decide +kernel
theorem dX12_upgrade_277 : decode cX12_upgrade 277 = .ok (.iastore, 1) := by decide +kernel
theorem dX12_upgrade_278 : decode cX12_upgrade 278 = .ok (.iinc 5 1, 3) := by decide +kernel
theorem dX12_upgrade_281 : decode cX12_upgrade 281 = .ok (.goto (-79), 3) := by decide +kernel
theorem dX12_upgrade_284 : decode cX12_upgrade 284 = .ok (.iinc 3 1, 3) := by decide +kernel
theorem dX12_upgrade_287 : decode cX12_upgrade 287 = .ok (.goto (-191), 3) := by decide +kernel
theorem dX12_upgrade_290 : decode cX12_upgrade 290 = .ok (.iconst 0, 1) := by decide +kernel
theorem dX12_upgrade_291 : decode cX12_upgrade 291 = .ok (.istore_n 3, 1) := by decide +kernel
theorem dX12_upgrade_292 : decode cX12_upgrade 292 = .ok (.iload_n 3, 1) := by decide +kernel
theorem dX12_upgrade_293 : decode cX12_upgrade 293 = .ok (.aload_n 0, 1) := by decide +kernel
theorem dX12_upgrade_294 : decode cX12_upgrade 294 = .ok (.getfield 315, 3) := by decide +kernel
theorem dX12_upgrade_297 : decode cX12_upgrade 297 = .ok (.if_icmp .ge 30, 3) := by decide +kernel
theorem dX12_upgrade_300 : decode cX12_upgrade 300 = .ok (.aload_n 0, 1) := by decide +kernel
theorem dX12_upgrade_301 : decode cX12_upgrade 301 = .ok (.getfield 74, 3) := by decide +kernel
theorem dX12_upgrade_304 : decode cX12_upgrade 304 = .ok (.iload_n 3, 1) := by decide +kernel
theorem dX12_upgrade_305 : decode cX12_upgrade 305 = .ok (.iaload, 1) := by decide +kernel
theorem dX12_upgrade_306 : decode cX12_upgrade 306 = .ok (.iload_n 1, 1) := by decide +kernel
theorem dX12_upgrade_307 : decode cX12_upgrade 307 = .ok (.if_icmp .ne 14, 3) := by decide +kernel
theorem dX12_upgrade_310 : decode cX12_upgrade 310 = .ok (.aload_n 0, 1) := by decide +kernel
theorem dX12_upgrade_311 : decode cX12_upgrade 311 = .ok (.aload_n 0, 1) := by decide +kernel
theorem dX12_upgrade_312 : decode cX12_upgrade 312 = .ok (.getfield 77, 3) := by decide +kernel
theorem dX12_upgrade_315 : decode cX12_upgrade 315 = .ok (.iconst 3, 1) := by decide +kernel
theorem dX12_upgrade_316 : decode cX12_upgrade 316 = .ok (.iload_n 3, 1) := by decide +kernel
theorem dX12_upgrade_317 : decode cX12_upgrade 317 = .ok (.imul, 1) := by decide +kernel
theorem dX12_upgrade_318 : decode cX12_upgrade 318 = .ok (.invokevirtual 339, 3) := by decide +kernel
theorem dX12_upgrade_321 : decode cX12_upgrade 321 = .ok (.iinc 3 1, 3) := by decide +kernel
theorem dX12_upgrade_324 : decode cX12_upgrade 324 = .ok (.goto (-32), 3) := by decide +kernel
theorem dX12_upgrade_327 : decode cX12_upgrade 327 = .ok (.aload_n 0, 1) := by decide +kernel
theorem dX12_upgrade_328 : decode cX12_upgrade 328 = .ok (.dup, 1) := by decide +kernel
theorem dX12_upgrade_329 : decode cX12_upgrade 329 = .ok (.getfield 343, 3) := by decide +kernel
theorem dX12_upgrade_332 : decode cX12_upgrade 332 = .ok (.iconst 1, 1) := by decide +kernel
theorem dX12_upgrade_333 : decode cX12_upgrade 333 = .ok (.iadd, 1) := by decide +kernel
theorem dX12_upgrade_334 : decode cX12_upgrade 334 = .ok (.putfield 343, 3) := by decide +kernel
theorem dX12_upgrade_337 : decode cX12_upgrade 337 = .ok (.aload_n 0, 1) := by decide +kernel
theorem dX12_upgrade_338 : decode cX12_upgrade 338 = .ok (.getfield 59, 3) := by decide +kernel
theorem dX12_upgrade_341 : decode cX12_upgrade 341 = .ok (.iload_n 1, 1) := by decide +kernel
theorem dX12_upgrade_342 : decode cX12_upgrade 342 = .ok (.iaload, 1) := by decide +kernel
theorem dX12_upgrade_343 : decode cX12_upgrade 343 = .ok (.ireturn, 1) := by decide +kernel
theorem dX12_isName_0 : decode cX12_isName 0 = .ok (.iload_n 1, 1) := by decide +kernel
theorem dX12_isName_1 : decode cX12_isName 1 = .ok (.iconst 0, 1) := by decide +kernel
theorem dX12_isName_2 : decode cX12_isName 2 = .ok (.bipush 16, 2) := by decide +kernel
theorem dX12_isName_4 : decode cX12_isName 4 = .ok (.aload_n 0, 1) := by decide +kernel
theorem dX12_isName_5 : decode cX12_isName 5 = .ok (.getfield 312, 3) := by decide +kernel
theorem dX12_isName_8 : decode cX12_isName 8 = .ok (.imul, 1) := by decide +kernel
theorem dX12_isName_9 : decode cX12_isName 9 = .ok (.iconst 1, 1) := by decide +kernel
theorem dX12_isName_10 : decode cX12_isName 10 = .ok (.isub, 1) := by decide +kernel
theorem dX12_isName_11 : decode cX12_isName 11 = .ok (.invokestatic 169, 3) := by decide +kernel
theorem dX12_isName_14 : decode cX12_isName 14 = .ok (.ireturn, 1) := by decide +kernel
theorem dX12_isKept_0 : decode cX12_isKept 0 = .ok (.aload_n 0, 1) := by decide +kernel
theorem dX12_isKept_1 : decode cX12_isKept 1 = .ok (.iload_n 1, 1) := by decide +kernel
theorem dX12_isKept_2 : decode cX12_isKept 2 = .ok (.bipush 16, 2) := by decide +kernel
theorem dX12_isKept_4 : decode cX12_isKept 4 = .ok (.idiv, 1) := by decide +kernel
theorem dX12_isKept_5 : decode cX12_isKept 5 = .ok (.iload_n 1, 1) := by decide +kernel
theorem dX12_isKept_6 : decode cX12_isKept 6 = .ok (.bipush 16, 2) := by decide +kernel
theorem dX12_isKept_8 : decode cX12_isKept 8 = .ok (.irem, 1) := by decide +kernel
theorem dX12_isKept_9 : decode cX12_isKept 9 = .ok (.invokevirtual 327, 3) := by decide +kernel
theorem dX12_isKept_12 : decode cX12_isKept 12 = .ok (.ireturn, 1) := by decide +kernel
theorem dX12_gives_0 : decode cX12_gives 0 = .ok (.iload_n 1, 1) := by decide +kernel
theorem dX12_gives_1 : decode cX12_gives 1 = .ok (.bipush 16, 2) := by decide +kernel
theorem dX12_gives_3 : decode cX12_gives 3 = .ok (.idiv, 1) := by decide +kernel
theorem dX12_gives_4 : decode cX12_gives 4 = .ok (.istore_n 3, 1) := by decide +kernel
theorem dX12_gives_5 : decode cX12_gives 5 = .ok (.aload_n 0, 1) := by decide +kernel
theorem dX12_gives_6 : decode cX12_gives 6 = .ok (.getfield 71, 3) := by decide +kernel
theorem dX12_gives_9 : decode cX12_gives 9 = .ok (.iconst 3, 1) := by decide +kernel
theorem dX12_gives_10 : decode cX12_gives 10 = .ok (.iload_n 3, 1) := by decide +kernel
theorem dX12_gives_11 : decode cX12_gives 11 = .ok (.imul, 1) := by decide +kernel
theorem dX12_gives_12 : decode cX12_gives 12 = .ok (.iload_n 2, 1) := by decide +kernel
theorem dX12_gives_13 : decode cX12_gives 13 = .ok (.iadd, 1) := by decide +kernel
theorem dX12_gives_14 : decode cX12_gives 14 = .ok (.iaload, 1) := by decide +kernel
theorem dX12_gives_15 : decode cX12_gives 15 = .ok (.istore 4, 2) := by decide +kernel
theorem dX12_gives_17 : decode cX12_gives 17 = .ok (.iload 4, 2) := by decide +kernel
theorem dX12_gives_19 : decode cX12_gives 19 = .ok (.iconst (-1), 1) := by decide +kernel
theorem dX12_gives_20 : decode cX12_gives 20 = .ok (.if_icmp .eq 18, 3) := by decide +kernel
theorem dX12_gives_23 : decode cX12_gives 23 = .ok (.aload_n 0, 1) := by decide +kernel
theorem dX12_gives_24 : decode cX12_gives 24 = .ok (.aload_n 0, 1) := by decide +kernel
theorem dX12_gives_25 : decode cX12_gives 25 = .ok (.getfield 62, 3) := by decide +kernel
theorem dX12_gives_28 : decode cX12_gives 28 = .ok (.iload_n 3, 1) := by decide +kernel
theorem dX12_gives_29 : decode cX12_gives 29 = .ok (.iaload, 1) := by decide +kernel
theorem dX12_gives_30 : decode cX12_gives 30 = .ok (.iload_n 2, 1) := by decide +kernel
theorem dX12_gives_31 : decode cX12_gives 31 = .ok (.iconst 2, 1) := by decide +kernel
theorem dX12_gives_32 : decode cX12_gives 32 = .ok (.invokevirtual 330, 3) := by decide +kernel
theorem dX12_gives_35 : decode cX12_gives 35 = .ok (.ifCond .eq 5, 3) := by decide +kernel
theorem dX12_gives_38 : decode cX12_gives 38 = .ok (.iconst 0, 1) := by decide +kernel
theorem dX12_gives_39 : decode cX12_gives 39 = .ok (.ireturn, 1) := by decide +kernel
theorem dX12_gives_40 : decode cX12_gives 40 = .ok (.iload 4, 2) := by decide +kernel
theorem dX12_gives_42 : decode cX12_gives 42 = .ok (.bipush 10, 2) := by decide +kernel
theorem dX12_gives_44 : decode cX12_gives 44 = .ok (.if_icmp .ge 35, 3) := by decide +kernel
theorem dX12_gives_47 : decode cX12_gives 47 = .ok (.aload_n 0, 1) := by decide +kernel
theorem dX12_gives_48 : decode cX12_gives 48 = .ok (.iload 4, 2) := by decide +kernel
theorem dX12_gives_50 : decode cX12_gives 50 = .ok (.invokevirtual 285, 3) := by decide +kernel
theorem dX12_gives_53 : decode cX12_gives 53 = .ok (.istore 5, 2) := by decide +kernel
theorem dX12_gives_55 : decode cX12_gives 55 = .ok (.iload 5, 2) := by decide +kernel
theorem dX12_gives_57 : decode cX12_gives 57 = .ok (.ifCond .ge 7, 3) := by decide +kernel
theorem dX12_gives_60 : decode cX12_gives 60 = .ok (.iconst (-1), 1) := by decide +kernel
theorem dX12_gives_61 : decode cX12_gives 61 = .ok (.goto 17, 3) := by decide +kernel
theorem dX12_gives_64 : decode cX12_gives 64 = .ok (.iload 5, 2) := by decide +kernel
theorem dX12_gives_66 : decode cX12_gives 66 = .ok (.aload_n 0, 1) := by decide +kernel
theorem dX12_gives_67 : decode cX12_gives 67 = .ok (.getfield 59, 3) := by decide +kernel
theorem dX12_gives_70 : decode cX12_gives 70 = .ok (.aload_n 0, 1) := by decide +kernel
theorem dX12_gives_71 : decode cX12_gives 71 = .ok (.getfield 62, 3) := by decide +kernel
theorem dX12_gives_74 : decode cX12_gives 74 = .ok (.iload_n 3, 1) := by decide +kernel
theorem dX12_gives_75 : decode cX12_gives 75 = .ok (.iaload, 1) := by decide +kernel
theorem dX12_gives_76 : decode cX12_gives 76 = .ok (.iaload, 1) := by decide +kernel
theorem dX12_gives_77 : decode cX12_gives 77 = .ok (.ishl, 1) := by decide +kernel
theorem dX12_gives_78 : decode cX12_gives 78 = .ok (.ireturn, 1) := by decide +kernel
theorem dX12_gives_79 : decode cX12_gives 79 = .ok (.iload 4, 2) := by decide +kernel
theorem dX12_gives_81 : decode cX12_gives 81 = .ok (.invokestatic 333, 3) := by decide +kernel
theorem dX12_gives_84 : decode cX12_gives 84 = .ok (.istore 5, 2) := by decide +kernel
theorem dX12_gives_86 : decode cX12_gives 86 = .ok (.bipush 16, 2) := by decide +kernel
theorem dX12_gives_88 : decode cX12_gives 88 = .ok (.iload 5, 2) := by decide +kernel
theorem dX12_gives_90 : decode cX12_gives 90 = .ok (.imul, 1) := by decide +kernel
theorem dX12_gives_91 : decode cX12_gives 91 = .ok (.iload_n 1, 1) := by decide +kernel
theorem dX12_gives_92 : decode cX12_gives 92 = .ok (.bipush 16, 2) := by decide +kernel
theorem dX12_gives_94 : decode cX12_gives 94 = .ok (.irem, 1) := by decide +kernel
theorem dX12_gives_95 : decode cX12_gives 95 = .ok (.iadd, 1) := by decide +kernel
theorem dX12_gives_96 : decode cX12_gives 96 = .ok (.istore 6, 2) := by decide +kernel
theorem dX12_gives_98 : decode cX12_gives 98 = .ok (.aload_n 0, 1) := by decide +kernel
theorem dX12_gives_99 : decode cX12_gives 99 = .ok (.getfield 83, 3) := by decide +kernel
theorem dX12_gives_102 : decode cX12_gives 102 = .ok (.iload 6, 2) := by decide +kernel
theorem dX12_gives_104 : decode cX12_gives 104 = .ok (.iaload, 1) := by decide +kernel
theorem dX12_gives_105 : decode cX12_gives 105 = .ok (.ifCond .eq 14, 3) := by decide +kernel
theorem dX12_gives_108 : decode cX12_gives 108 = .ok (.aload_n 0, 1) := by decide +kernel
theorem dX12_gives_109 : decode cX12_gives 109 = .ok (.getfield 157, 3) := by decide +kernel
theorem dX12_gives_112 : decode cX12_gives 112 = .ok (.iload 6, 2) := by decide +kernel
theorem dX12_gives_114 : decode cX12_gives 114 = .ok (.iaload, 1) := by decide +kernel
theorem dX12_gives_115 : decode cX12_gives 115 = .ok (.iconst 2, 1) := by decide +kernel
theorem dX12_gives_116 : decode cX12_gives 116 = .ok (.if_icmp .le 5, 3) := by decide +kernel
theorem dX12_gives_119 : decode cX12_gives 119 = .ok (.iconst (-1), 1) := by decide +kernel
theorem dX12_gives_120 : decode cX12_gives 120 = .ok (.ireturn, 1) := by decide +kernel
theorem dX12_gives_121 : decode cX12_gives 121 = .ok (.aload_n 0, 1) := by decide +kernel
theorem dX12_gives_122 : decode cX12_gives 122 = .ok (.getfield 86, 3) := by decide +kernel
theorem dX12_gives_125 : decode cX12_gives 125 = .ok (.iconst 3, 1) := by decide +kernel
theorem dX12_gives_126 : decode cX12_gives 126 = .ok (.iload 6, 2) := by decide +kernel
theorem dX12_gives_128 : decode cX12_gives 128 = .ok (.imul, 1) := by decide +kernel
theorem dX12_gives_129 : decode cX12_gives 129 = .ok (.iload 4, 2) := by decide +kernel
theorem dX12_gives_131 : decode cX12_gives 131 = .ok (.bipush 10, 2) := by decide +kernel
theorem dX12_gives_133 : decode cX12_gives 133 = .ok (.isub, 1) := by decide +kernel
theorem dX12_gives_134 : decode cX12_gives 134 = .ok (.iconst 3, 1) := by decide +kernel
theorem dX12_gives_135 : decode cX12_gives 135 = .ok (.irem, 1) := by decide +kernel
theorem dX12_gives_136 : decode cX12_gives 136 = .ok (.iadd, 1) := by decide +kernel
theorem dX12_gives_137 : decode cX12_gives 137 = .ok (.iaload, 1) := by decide +kernel
theorem dX12_gives_138 : decode cX12_gives 138 = .ok (.aload_n 0, 1) := by decide +kernel
theorem dX12_gives_139 : decode cX12_gives 139 = .ok (.getfield 59, 3) := by decide +kernel
theorem dX12_gives_142 : decode cX12_gives 142 = .ok (.aload_n 0, 1) := by decide +kernel
theorem dX12_gives_143 : decode cX12_gives 143 = .ok (.getfield 62, 3) := by decide +kernel
theorem dX12_gives_146 : decode cX12_gives 146 = .ok (.iload 5, 2) := by decide +kernel
theorem dX12_gives_148 : decode cX12_gives 148 = .ok (.iaload, 1) := by decide +kernel
theorem dX12_gives_149 : decode cX12_gives 149 = .ok (.iaload, 1) := by decide +kernel
theorem dX12_gives_150 : decode cX12_gives 150 = .ok (.ishr, 1) := by decide +kernel
theorem dX12_gives_151 : decode cX12_gives 151 = .ok (.aload_n 0, 1) := by decide +kernel
theorem dX12_gives_152 : decode cX12_gives 152 = .ok (.getfield 59, 3) := by decide +kernel
theorem dX12_gives_155 : decode cX12_gives 155 = .ok (.aload_n 0, 1) := by decide +kernel
theorem dX12_gives_156 : decode cX12_gives 156 = .ok (.getfield 62, 3) := by decide +kernel
theorem dX12_gives_159 : decode cX12_gives 159 = .ok (.iload_n 3, 1) := by decide +kernel
theorem dX12_gives_160 : decode cX12_gives 160 = .ok (.iaload, 1) := by decide +kernel
theorem dX12_gives_161 : decode cX12_gives 161 = .ok (.iaload, 1) := by decide +kernel
theorem dX12_gives_162 : decode cX12_gives 162 = .ok (.ishl, 1) := by decide +kernel
theorem dX12_gives_163 : decode cX12_gives 163 = .ok (.ireturn, 1) := by decide +kernel
theorem dX12_differs_0 : decode cX12_differs 0 = .ok (.aload_n 0, 1) := by decide +kernel
theorem dX12_differs_1 : decode cX12_differs 1 = .ok (.aload_n 0, 1) := by decide +kernel
theorem dX12_differs_2 : decode cX12_differs 2 = .ok (.getfield 62, 3) := by decide +kernel
theorem dX12_differs_5 : decode cX12_differs 5 = .ok (.iload_n 1, 1) := by decide +kernel
theorem dX12_differs_6 : decode cX12_differs 6 = .ok (.bipush 16, 2) := by decide +kernel
theorem dX12_differs_8 : decode cX12_differs 8 = .ok (.idiv, 1) := by decide +kernel
theorem dX12_differs_9 : decode cX12_differs 9 = .ok (.iaload, 1) := by decide +kernel
theorem dX12_differs_10 : decode cX12_differs 10 = .ok (.iload_n 2, 1) := by decide +kernel
theorem dX12_differs_11 : decode cX12_differs 11 = .ok (.iconst 2, 1) := by decide +kernel
theorem dX12_differs_12 : decode cX12_differs 12 = .ok (.invokevirtual 330, 3) := by decide +kernel
theorem dX12_differs_15 : decode cX12_differs 15 = .ok (.ifCond .eq 5, 3) := by decide +kernel
theorem dX12_differs_18 : decode cX12_differs 18 = .ok (.iconst 0, 1) := by decide +kernel
theorem dX12_differs_19 : decode cX12_differs 19 = .ok (.ireturn, 1) := by decide +kernel
theorem dX12_differs_20 : decode cX12_differs 20 = .ok (.aload_n 0, 1) := by decide +kernel
theorem dX12_differs_21 : decode cX12_differs 21 = .ok (.iload_n 1, 1) := by decide +kernel
theorem dX12_differs_22 : decode cX12_differs 22 = .ok (.iload_n 2, 1) := by decide +kernel
theorem dX12_differs_23 : decode cX12_differs 23 = .ok (.invokevirtual 346, 3) := by decide +kernel
theorem dX12_differs_26 : decode cX12_differs 26 = .ok (.istore_n 3, 1) := by decide +kernel
theorem dX12_differs_27 : decode cX12_differs 27 = .ok (.aload_n 0, 1) := by decide +kernel
theorem dX12_differs_28 : decode cX12_differs 28 = .ok (.getfield 92, 3) := by decide +kernel
theorem dX12_differs_31 : decode cX12_differs 31 = .ok (.iload_n 1, 1) := by decide +kernel
theorem dX12_differs_32 : decode cX12_differs 32 = .ok (.iaload, 1) := by decide +kernel
theorem dX12_differs_33 : decode cX12_differs 33 = .ok (.iload_n 2, 1) := by decide +kernel
theorem dX12_differs_34 : decode cX12_differs 34 = .ok (.ishr, 1) := by decide +kernel
theorem dX12_differs_35 : decode cX12_differs 35 = .ok (.iconst 1, 1) := by decide +kernel
theorem dX12_differs_36 : decode cX12_differs 36 = .ok (.iand, 1) := by decide +kernel
theorem dX12_differs_37 : decode cX12_differs 37 = .ok (.iconst 1, 1) := by decide +kernel
theorem dX12_differs_38 : decode cX12_differs 38 = .ok (.if_icmp .ne 25, 3) := by decide +kernel
theorem dX12_differs_41 : decode cX12_differs 41 = .ok (.iload_n 3, 1) := by decide +kernel
theorem dX12_differs_42 : decode cX12_differs 42 = .ok (.ifCond .lt 21, 3) := by decide +kernel
theorem dX12_differs_45 : decode cX12_differs 45 = .ok (.iload_n 3, 1) := by decide +kernel
theorem dX12_differs_46 : decode cX12_differs 46 = .ok (.aload_n 0, 1) := by decide +kernel
theorem dX12_differs_47 : decode cX12_differs 47 = .ok (.getfield 95, 3) := by decide +kernel
theorem dX12_differs_50 : decode cX12_differs 50 = .ok (.iconst 3, 1) := by decide +kernel
theorem dX12_differs_51 : decode cX12_differs 51 = .ok (.iload_n 1, 1) := by decide +kernel
theorem dX12_differs_52 : decode cX12_differs 52 = .ok (.imul, 1) := by decide +kernel
theorem dX12_differs_53 : decode cX12_differs 53 = .ok (.iload_n 2, 1) := by decide +kernel
theorem dX12_differs_54 : decode cX12_differs 54 = .ok (.iadd, 1) := by decide +kernel
theorem dX12_differs_55 : decode cX12_differs 55 = .ok (.iaload, 1) := by decide +kernel
theorem dX12_differs_56 : decode cX12_differs 56 = .ok (.if_icmp .ne 7, 3) := by decide +kernel
theorem dX12_differs_59 : decode cX12_differs 59 = .ok (.iconst 1, 1) := by decide +kernel
theorem dX12_differs_60 : decode cX12_differs 60 = .ok (.goto 4, 3) := by decide +kernel
theorem dX12_differs_63 : decode cX12_differs 63 = .ok (.iconst 0, 1) := by decide +kernel
theorem dX12_differs_64 : decode cX12_differs 64 = .ok (.istore 4, 2) := by decide +kernel
theorem dX12_differs_66 : decode cX12_differs 66 = .ok (.iload_n 3, 1) := by decide +kernel
theorem dX12_differs_67 : decode cX12_differs 67 = .ok (.aload_n 0, 1) := by decide +kernel
theorem dX12_differs_68 : decode cX12_differs 68 = .ok (.getfield 86, 3) := by decide +kernel
theorem dX12_differs_71 : decode cX12_differs 71 = .ok (.iconst 3, 1) := by decide +kernel
theorem dX12_differs_72 : decode cX12_differs 72 = .ok (.iload_n 1, 1) := by decide +kernel
theorem dX12_differs_73 : decode cX12_differs 73 = .ok (.imul, 1) := by decide +kernel
theorem dX12_differs_74 : decode cX12_differs 74 = .ok (.iload_n 2, 1) := by decide +kernel
theorem dX12_differs_75 : decode cX12_differs 75 = .ok (.iadd, 1) := by decide +kernel
theorem dX12_differs_76 : decode cX12_differs 76 = .ok (.iaload, 1) := by decide +kernel
theorem dX12_differs_77 : decode cX12_differs 77 = .ok (.if_icmp .eq 12, 3) := by decide +kernel
theorem dX12_differs_80 : decode cX12_differs 80 = .ok (.iload 4, 2) := by decide +kernel
theorem dX12_differs_82 : decode cX12_differs 82 = .ok (.ifCond .ne 7, 3) := by decide +kernel
theorem dX12_differs_85 : decode cX12_differs 85 = .ok (.iconst 1, 1) := by decide +kernel
theorem dX12_differs_86 : decode cX12_differs 86 = .ok (.goto 4, 3) := by decide +kernel
theorem dX12_differs_89 : decode cX12_differs 89 = .ok (.iconst 0, 1) := by decide +kernel
theorem dX12_differs_90 : decode cX12_differs 90 = .ok (.ireturn, 1) := by decide +kernel
theorem dX12_compares_0 : decode cX12_compares 0 = .ok (.aload_n 0, 1) := by decide +kernel
theorem dX12_compares_1 : decode cX12_compares 1 = .ok (.getfield 83, 3) := by decide +kernel
theorem dX12_compares_4 : decode cX12_compares 4 = .ok (.iload_n 1, 1) := by decide +kernel
theorem dX12_compares_5 : decode cX12_compares 5 = .ok (.iaload, 1) := by decide +kernel
theorem dX12_compares_6 : decode cX12_compares 6 = .ok (.ifCond .le 7, 3) := by decide +kernel
theorem dX12_compares_9 : decode cX12_compares 9 = .ok (.iconst 1, 1) := by decide +kernel
theorem dX12_compares_10 : decode cX12_compares 10 = .ok (.goto 4, 3) := by decide +kernel
theorem dX12_compares_13 : decode cX12_compares 13 = .ok (.iconst 0, 1) := by decide +kernel
theorem dX12_compares_14 : decode cX12_compares 14 = .ok (.istore_n 2, 1) := by decide +kernel
theorem dX12_compares_15 : decode cX12_compares 15 = .ok (.aload_n 0, 1) := by decide +kernel
theorem dX12_compares_16 : decode cX12_compares 16 = .ok (.iload_n 1, 1) := by decide +kernel
theorem dX12_compares_17 : decode cX12_compares 17 = .ok (.invokevirtual 349, 3) := by decide +kernel
theorem dX12_compares_20 : decode cX12_compares 20 = .ok (.ifCond .ne 13, 3) := by decide +kernel
theorem dX12_compares_23 : decode cX12_compares 23 = .ok (.iload_n 2, 1) := by decide +kernel
theorem dX12_compares_24 : decode cX12_compares 24 = .ok (.ifCond .eq 7, 3) := by decide +kernel
theorem dX12_compares_27 : decode cX12_compares 27 = .ok (.iconst 4, 1) := by decide +kernel
theorem dX12_compares_28 : decode cX12_compares 28 = .ok (.goto 4, 3) := by decide +kernel
theorem dX12_compares_31 : decode cX12_compares 31 = .ok (.iconst 0, 1) := by decide +kernel
theorem dX12_compares_32 : decode cX12_compares 32 = .ok (.ireturn, 1) := by decide +kernel
theorem dX12_compares_33 : decode cX12_compares 33 = .ok (.iload_n 2, 1) := by decide +kernel
theorem dX12_compares_34 : decode cX12_compares 34 = .ok (.ifCond .ne 5, 3) := by decide +kernel
theorem dX12_compares_37 : decode cX12_compares 37 = .ok (.iconst 1, 1) := by decide +kernel
theorem dX12_compares_38 : decode cX12_compares 38 = .ok (.ireturn, 1) := by decide +kernel
theorem dX12_compares_39 : decode cX12_compares 39 = .ok (.aload_n 0, 1) := by decide +kernel
theorem dX12_compares_40 : decode cX12_compares 40 = .ok (.getfield 89, 3) := by decide +kernel
theorem dX12_compares_43 : decode cX12_compares 43 = .ok (.iload_n 1, 1) := by decide +kernel
theorem dX12_compares_44 : decode cX12_compares 44 = .ok (.baload, 1) := by decide +kernel
theorem dX12_compares_45 : decode cX12_compares 45 = .ok (.istore_n 3, 1) := by decide +kernel
theorem dX12_compares_46 : decode cX12_compares 46 = .ok (.iconst 0, 1) := by decide +kernel
theorem dX12_compares_47 : decode cX12_compares 47 = .ok (.istore 4, 2) := by decide +kernel
theorem dX12_compares_49 : decode cX12_compares 49 = .ok (.iconst 0, 1) := by decide +kernel
theorem dX12_compares_50 : decode cX12_compares 50 = .ok (.istore 5, 2) := by decide +kernel
theorem dX12_compares_52 : decode cX12_compares 52 = .ok (.iload 5, 2) := by decide +kernel
theorem dX12_compares_54 : decode cX12_compares 54 = .ok (.iconst 3, 1) := by decide +kernel
theorem dX12_compares_55 : decode cX12_compares 55 = .ok (.if_icmp .ge 57, 3) := by decide +kernel
theorem dX12_compares_58 : decode cX12_compares 58 = .ok (.aload_n 0, 1) := by decide +kernel
theorem dX12_compares_59 : decode cX12_compares 59 = .ok (.iload_n 1, 1) := by decide +kernel
theorem dX12_compares_60 : decode cX12_compares 60 = .ok (.iload 5, 2) := by decide +kernel
theorem dX12_compares_62 : decode cX12_compares 62 = .ok (.invokevirtual 352, 3) := by decide +kernel
theorem dX12_compares_65 : decode cX12_compares 65 = .ok (.istore 6, 2) := by decide +kernel
theorem dX12_compares_67 : decode cX12_compares 67 = .ok (.iload 4, 2) := by decide +kernel
theorem dX12_compares_69 : decode cX12_compares 69 = .ok (.iload 6, 2) := by decide +kernel
theorem dX12_compares_71 : decode cX12_compares 71 = .ok (.ior, 1) := by decide +kernel
theorem dX12_compares_72 : decode cX12_compares 72 = .ok (.istore 4, 2) := by decide +kernel
theorem dX12_compares_74 : decode cX12_compares 74 = .ok (.iload_n 3, 1) := by decide +kernel
theorem dX12_compares_75 : decode cX12_compares 75 = .ok (.iload 6, 2) := by decide +kernel
theorem dX12_compares_77 : decode cX12_compares 77 = .ok (.ifCond .eq 26, 3) := by decide +kernel
theorem dX12_compares_80 : decode cX12_compares 80 = .ok (.aload_n 0, 1) := by decide +kernel
theorem dX12_compares_81 : decode cX12_compares 81 = .ok (.aload_n 0, 1) := by decide +kernel
theorem dX12_compares_82 : decode cX12_compares 82 = .ok (.getfield 62, 3) := by decide +kernel
theorem dX12_compares_85 : decode cX12_compares 85 = .ok (.iload_n 1, 1) := by decide +kernel
theorem dX12_compares_86 : decode cX12_compares 86 = .ok (.bipush 16, 2) := by decide +kernel
theorem dX12_compares_88 : decode cX12_compares 88 = .ok (.idiv, 1) := by decide +kernel
theorem dX12_compares_89 : decode cX12_compares 89 = .ok (.iaload, 1) := by decide +kernel
theorem dX12_compares_90 : decode cX12_compares 90 = .ok (.iload 5, 2) := by decide +kernel
theorem dX12_compares_92 : decode cX12_compares 92 = .ok (.iconst 1, 1) := by decide +kernel
theorem dX12_compares_93 : decode cX12_compares 93 = .ok (.invokevirtual 330, 3) := by decide +kernel
theorem dX12_compares_96 : decode cX12_compares 96 = .ok (.ifCond .eq 7, 3) := by decide +kernel
theorem dX12_compares_99 : decode cX12_compares 99 = .ok (.iconst 1, 1) := by decide +kernel
theorem dX12_compares_100 : decode cX12_compares 100 = .ok (.goto 4, 3) := by decide +kernel
theorem dX12_compares_103 : decode cX12_compares 103 = .ok (.iconst 0, 1) := by decide +kernel
theorem dX12_compares_104 : decode cX12_compares 104 = .ok (.ior, 1) := by decide +kernel
theorem dX12_compares_105 : decode cX12_compares 105 = .ok (.istore_n 3, 1) := by decide +kernel
theorem dX12_compares_106 : decode cX12_compares 106 = .ok (.iinc 5 1, 3) := by decide +kernel
theorem dX12_compares_109 : decode cX12_compares 109 = .ok (.goto (-57), 3) := by decide +kernel
theorem dX12_compares_112 : decode cX12_compares 112 = .ok (.iload_n 3, 1) := by decide +kernel
theorem dX12_compares_113 : decode cX12_compares 113 = .ok (.ifCond .eq 7, 3) := by decide +kernel
theorem dX12_compares_116 : decode cX12_compares 116 = .ok (.iconst 3, 1) := by decide +kernel
theorem dX12_compares_117 : decode cX12_compares 117 = .ok (.goto 13, 3) := by decide +kernel
theorem dX12_compares_120 : decode cX12_compares 120 = .ok (.iload 4, 2) := by decide +kernel
theorem dX12_compares_122 : decode cX12_compares 122 = .ok (.ifCond .eq 7, 3) := by decide +kernel
theorem dX12_compares_125 : decode cX12_compares 125 = .ok (.iconst 2, 1) := by decide +kernel
theorem dX12_compares_126 : decode cX12_compares 126 = .ok (.goto 4, 3) := by decide +kernel
theorem dX12_compares_129 : decode cX12_compares 129 = .ok (.iconst 0, 1) := by decide +kernel
theorem dX12_compares_130 : decode cX12_compares 130 = .ok (.ireturn, 1) := by decide +kernel
theorem dX12_comparesAll_0 : decode cX12_comparesAll 0 = .ok (.aload_n 0, 1) := by decide +kernel
theorem dX12_comparesAll_1 : decode cX12_comparesAll 1 = .ok (.invokevirtual 276, 3) := by decide +kernel
theorem dX12_comparesAll_4 : decode cX12_comparesAll 4 = .ok (.iconst 0, 1) := by decide +kernel
theorem dX12_comparesAll_5 : decode cX12_comparesAll 5 = .ok (.istore_n 1, 1) := by decide +kernel
theorem dX12_comparesAll_6 : decode cX12_comparesAll 6 = .ok (.iload_n 1, 1) := by decide +kernel
theorem dX12_comparesAll_7 : decode cX12_comparesAll 7 = .ok (.bipush 16, 2) := by decide +kernel
theorem dX12_comparesAll_9 : decode cX12_comparesAll 9 = .ok (.aload_n 0, 1) := by decide +kernel
theorem dX12_comparesAll_10 : decode cX12_comparesAll 10 = .ok (.getfield 312, 3) := by decide +kernel
theorem dX12_comparesAll_13 : decode cX12_comparesAll 13 = .ok (.imul, 1) := by decide +kernel
theorem dX12_comparesAll_14 : decode cX12_comparesAll 14 = .ok (.if_icmp .ge 20, 3) := by decide +kernel
theorem dX12_comparesAll_17 : decode cX12_comparesAll 17 = .ok (.aload_n 0, 1) := by decide +kernel
theorem dX12_comparesAll_18 : decode cX12_comparesAll 18 = .ok (.getfield 157, 3) := by decide +kernel
theorem dX12_comparesAll_21 : decode cX12_comparesAll 21 = .ok (.iload_n 1, 1) := by decide +kernel
theorem dX12_comparesAll_22 : decode cX12_comparesAll 22 = .ok (.aload_n 0, 1) := by decide +kernel
theorem dX12_comparesAll_23 : decode cX12_comparesAll 23 = .ok (.iload_n 1, 1) := by decide +kernel
theorem dX12_comparesAll_24 : decode cX12_comparesAll 24 = .ok (.invokevirtual 355, 3) := by decide +kernel
theorem dX12_comparesAll_27 : decode cX12_comparesAll 27 = .ok (.iastore, 1) := by decide +kernel
theorem dX12_comparesAll_28 : decode cX12_comparesAll 28 = .ok (.iinc 1 1, 3) := by decide +kernel
theorem dX12_comparesAll_31 : decode cX12_comparesAll 31 = .ok (.goto (-25), 3) := by decide +kernel
theorem dX12_comparesAll_34 : decode cX12_comparesAll 34 = .ok (.return_, 1) := by decide +kernel
theorem dX12_canSource_0 : decode cX12_canSource 0 = .ok (.aload_n 0, 1) := by decide +kernel
theorem dX12_canSource_1 : decode cX12_canSource 1 = .ok (.getfield 71, 3) := by decide +kernel
theorem dX12_canSource_4 : decode cX12_canSource 4 = .ok (.iconst 3, 1) := by decide +kernel
theorem dX12_canSource_5 : decode cX12_canSource 5 = .ok (.iload_n 1, 1) := by decide +kernel
theorem dX12_canSource_6 : decode cX12_canSource 6 = .ok (.imul, 1) := by decide +kernel
theorem dX12_canSource_7 : decode cX12_canSource 7 = .ok (.iload_n 2, 1) := by decide +kernel
theorem dX12_canSource_8 : decode cX12_canSource 8 = .ok (.iadd, 1) := by decide +kernel
theorem dX12_canSource_9 : decode cX12_canSource 9 = .ok (.iaload, 1) := by decide +kernel
theorem dX12_canSource_10 : decode cX12_canSource 10 = .ok (.istore 4, 2) := by decide +kernel
theorem dX12_canSource_12 : decode cX12_canSource 12 = .ok (.iconst 1, 1) := by decide +kernel
theorem dX12_canSource_13 : decode cX12_canSource 13 = .ok (.istore 5, 2) := by decide +kernel
theorem dX12_canSource_15 : decode cX12_canSource 15 = .ok (.iload 4, 2) := by decide +kernel
theorem dX12_canSource_17 : decode cX12_canSource 17 = .ok (.ifCond .lt 50, 3) := by decide +kernel
theorem dX12_canSource_20 : decode cX12_canSource 20 = .ok (.iload 4, 2) := by decide +kernel
theorem dX12_canSource_22 : decode cX12_canSource 22 = .ok (.bipush 10, 2) := by decide +kernel
theorem dX12_canSource_24 : decode cX12_canSource 24 = .ok (.if_icmp .ge 43, 3) := by decide +kernel
theorem dX12_canSource_27 : decode cX12_canSource 27 = .ok (.aload_n 0, 1) := by decide +kernel
theorem dX12_canSource_28 : decode cX12_canSource 28 = .ok (.iload 4, 2) := by decide +kernel
theorem dX12_canSource_30 : decode cX12_canSource 30 = .ok (.invokevirtual 285, 3) := by decide +kernel
theorem dX12_canSource_33 : decode cX12_canSource 33 = .ok (.ifCond .lt 31, 3) := by decide +kernel
theorem dX12_canSource_36 : decode cX12_canSource 36 = .ok (.iload_n 3, 1) := by decide +kernel
theorem dX12_canSource_37 : decode cX12_canSource 37 = .ok (.iload 4, 2) := by decide +kernel
theorem dX12_canSource_39 : decode cX12_canSource 39 = .ok (.ishr, 1) := by decide +kernel
theorem dX12_canSource_40 : decode cX12_canSource 40 = .ok (.iconst 1, 1) := by decide +kernel
theorem dX12_canSource_41 : decode cX12_canSource 41 = .ok (.iand, 1) := by decide +kernel
theorem dX12_canSource_42 : decode cX12_canSource 42 = .ok (.ifCond .eq 18, 3) := by decide +kernel
theorem dX12_canSource_45 : decode cX12_canSource 45 = .ok (.aload_n 0, 1) := by decide +kernel
theorem dX12_canSource_46 : decode cX12_canSource 46 = .ok (.aload_n 0, 1) := by decide +kernel
theorem dX12_canSource_47 : decode cX12_canSource 47 = .ok (.getfield 62, 3) := by decide +kernel
theorem dX12_canSource_50 : decode cX12_canSource 50 = .ok (.iload_n 1, 1) := by decide +kernel
theorem dX12_canSource_51 : decode cX12_canSource 51 = .ok (.iaload, 1) := by decide +kernel
theorem dX12_canSource_52 : decode cX12_canSource 52 = .ok (.iload_n 2, 1) := by decide +kernel
theorem dX12_canSource_53 : decode cX12_canSource 53 = .ok (.iconst 4, 1) := by decide +kernel
theorem dX12_canSource_54 : decode cX12_canSource 54 = .ok (.invokevirtual 330, 3) := by decide +kernel
theorem dX12_canSource_57 : decode cX12_canSource 57 = .ok (.ifCond .eq 7, 3) := by decide +kernel
theorem dX12_canSource_60 : decode cX12_canSource 60 = .ok (.iconst 1, 1) := by decide +kernel
theorem dX12_canSource_61 : decode cX12_canSource 61 = .ok (.goto 4, 3) := by decide +kernel
theorem dX12_canSource_64 : decode cX12_canSource 64 = .ok (.iconst 0, 1) := by decide +kernel
theorem dX12_canSource_65 : decode cX12_canSource 65 = .ok (.istore 5, 2) := by decide +kernel
theorem dX12_canSource_67 : decode cX12_canSource 67 = .ok (.iconst 0, 1) := by decide +kernel
theorem dX12_canSource_68 : decode cX12_canSource 68 = .ok (.istore 6, 2) := by decide +kernel
theorem dX12_canSource_70 : decode cX12_canSource 70 = .ok (.iload 6, 2) := by decide +kernel
theorem dX12_canSource_72 : decode cX12_canSource 72 = .ok (.aload_n 0, 1) := by decide +kernel
theorem dX12_canSource_73 : decode cX12_canSource 73 = .ok (.getfield 65, 3) := by decide +kernel
theorem dX12_canSource_76 : decode cX12_canSource 76 = .ok (.iload_n 1, 1) := by decide +kernel
theorem dX12_canSource_77 : decode cX12_canSource 77 = .ok (.iaload, 1) := by decide +kernel
theorem dX12_canSource_78 : decode cX12_canSource 78 = .ok (.if_icmp .ge 42, 3) := by decide +kernel
theorem dX12_canSource_81 : decode cX12_canSource 81 = .ok (.iload 4, 2) := by decide +kernel
theorem dX12_canSource_83 : decode cX12_canSource 83 = .ok (.bipush 10, 2) := by decide +kernel
theorem dX12_canSource_85 : decode cX12_canSource 85 = .ok (.if_icmp .lt 35, 3) := by decide +kernel
theorem dX12_canSource_88 : decode cX12_canSource 88 = .ok (.iload 5, 2) := by decide +kernel
theorem dX12_canSource_90 : decode cX12_canSource 90 = .ok (.aload_n 0, 1) := by decide +kernel
theorem dX12_canSource_91 : decode cX12_canSource 91 = .ok (.iload 4, 2) := by decide +kernel
theorem dX12_canSource_93 : decode cX12_canSource 93 = .ok (.invokestatic 333, 3) := by decide +kernel
theorem dX12_canSource_96 : decode cX12_canSource 96 = .ok (.aload_n 0, 1) := by decide +kernel
theorem dX12_canSource_97 : decode cX12_canSource 97 = .ok (.getfield 68, 3) := by decide +kernel
theorem dX12_canSource_100 : decode cX12_canSource 100 = .ok (.bipush 8, 2) := by decide +kernel
theorem dX12_canSource_102 : decode cX12_canSource 102 = .ok (.iload_n 1, 1) := by decide +kernel
theorem dX12_canSource_103 : decode cX12_canSource 103 = .ok (.imul, 1) := by decide +kernel
theorem dX12_canSource_104 : decode cX12_canSource 104 = .ok (.iload 6, 2) := by decide +kernel
theorem dX12_canSource_106 : decode cX12_canSource 106 = .ok (.iadd, 1) := by decide +kernel
theorem dX12_canSource_107 : decode cX12_canSource 107 = .ok (.iaload, 1) := by decide +kernel
theorem dX12_canSource_108 : decode cX12_canSource 108 = .ok (.invokevirtual 327, 3) := by decide +kernel
theorem dX12_canSource_111 : decode cX12_canSource 111 = .ok (.iand, 1) := by decide +kernel
theorem dX12_canSource_112 : decode cX12_canSource 112 = .ok (.istore 5, 2) := by decide +kernel
theorem dX12_canSource_114 : decode cX12_canSource 114 = .ok (.iinc 6 1, 3) := by decide +kernel
theorem dX12_canSource_117 : decode cX12_canSource 117 = .ok (.goto (-47), 3) := by decide +kernel
theorem dX12_canSource_120 : decode cX12_canSource 120 = .ok (.iload 5, 2) := by decide +kernel
theorem dX12_canSource_122 : decode cX12_canSource 122 = .ok (.ireturn, 1) := by decide +kernel
theorem dX12_canPlan_0 : decode cX12_canPlan 0 = .ok (.aload_n 0, 1) := by decide +kernel
theorem dX12_canPlan_1 : decode cX12_canPlan 1 = .ok (.getfield 267, 3) := by decide +kernel
theorem dX12_canPlan_4 : decode cX12_canPlan 4 = .ok (.ifCond .ne 7, 3) := by decide +kernel
theorem dX12_canPlan_7 : decode cX12_canPlan 7 = .ok (.iconst 1, 1) := by decide +kernel
theorem dX12_canPlan_8 : decode cX12_canPlan 8 = .ok (.goto 4, 3) := by decide +kernel
theorem dX12_canPlan_11 : decode cX12_canPlan 11 = .ok (.iconst 0, 1) := by decide +kernel
theorem dX12_canPlan_12 : decode cX12_canPlan 12 = .ok (.istore_n 1, 1) := by decide +kernel
theorem dX12_canPlan_13 : decode cX12_canPlan 13 = .ok (.iconst 0, 1) := by decide +kernel
theorem dX12_canPlan_14 : decode cX12_canPlan 14 = .ok (.istore_n 2, 1) := by decide +kernel
theorem dX12_canPlan_15 : decode cX12_canPlan 15 = .ok (.iload_n 2, 1) := by decide +kernel
theorem dX12_canPlan_16 : decode cX12_canPlan 16 = .ok (.aload_n 0, 1) := by decide +kernel
theorem dX12_canPlan_17 : decode cX12_canPlan 17 = .ok (.getfield 183, 3) := by decide +kernel
theorem dX12_canPlan_20 : decode cX12_canPlan 20 = .ok (.if_icmp .ge 26, 3) := by decide +kernel
theorem dX12_canPlan_23 : decode cX12_canPlan 23 = .ok (.iload_n 1, 1) := by decide +kernel
theorem dX12_canPlan_24 : decode cX12_canPlan 24 = .ok (.aload_n 0, 1) := by decide +kernel
theorem dX12_canPlan_25 : decode cX12_canPlan 25 = .ok (.getfield 141, 3) := by decide +kernel
theorem dX12_canPlan_28 : decode cX12_canPlan 28 = .ok (.iload_n 2, 1) := by decide +kernel
theorem dX12_canPlan_29 : decode cX12_canPlan 29 = .ok (.iaload, 1) := by decide +kernel
theorem dX12_canPlan_30 : decode cX12_canPlan 30 = .ok (.ifCond .ne 7, 3) := by decide +kernel
theorem dX12_canPlan_33 : decode cX12_canPlan 33 = .ok (.iconst 1, 1) := by decide +kernel
theorem dX12_canPlan_34 : decode cX12_canPlan 34 = .ok (.goto 4, 3) := by decide +kernel
theorem dX12_canPlan_37 : decode cX12_canPlan 37 = .ok (.iconst 0, 1) := by decide +kernel
theorem dX12_canPlan_38 : decode cX12_canPlan 38 = .ok (.iand, 1) := by decide +kernel
theorem dX12_canPlan_39 : decode cX12_canPlan 39 = .ok (.istore_n 1, 1) := by decide +kernel
theorem dX12_canPlan_40 : decode cX12_canPlan 40 = .ok (.iinc 2 1, 3) := by decide +kernel
theorem dX12_canPlan_43 : decode cX12_canPlan 43 = .ok (.goto (-28), 3) := by decide +kernel
theorem dX12_canPlan_46 : decode cX12_canPlan 46 = .ok (.aload_n 0, 1) := by decide +kernel
theorem dX12_canPlan_47 : decode cX12_canPlan 47 = .ok (.invokevirtual 308, 3) := by decide +kernel
theorem dX12_canPlan_50 : decode cX12_canPlan 50 = .ok (.istore_n 2, 1) := by decide +kernel
theorem dX12_canPlan_51 : decode cX12_canPlan 51 = .ok (.iconst 0, 1) := by decide +kernel
theorem dX12_canPlan_52 : decode cX12_canPlan 52 = .ok (.istore_n 3, 1) := by decide +kernel
theorem dX12_canPlan_53 : decode cX12_canPlan 53 = .ok (.iload_n 3, 1) := by decide +kernel
theorem dX12_canPlan_54 : decode cX12_canPlan 54 = .ok (.aload_n 0, 1) := by decide +kernel
theorem dX12_canPlan_55 : decode cX12_canPlan 55 = .ok (.getfield 312, 3) := by decide +kernel
theorem dX12_canPlan_58 : decode cX12_canPlan 58 = .ok (.if_icmp .ge 44, 3) := by decide +kernel
theorem dX12_canPlan_61 : decode cX12_canPlan 61 = .ok (.iconst 0, 1) := by decide +kernel
theorem dX12_canPlan_62 : decode cX12_canPlan 62 = .ok (.istore 4, 2) := by decide +kernel
theorem dX12_canPlan_64 : decode cX12_canPlan 64 = .ok (.iload 4, 2) := by decide +kernel
theorem dX12_canPlan_66 : decode cX12_canPlan 66 = .ok (.iconst 3, 1) := by decide +kernel
theorem dX12_canPlan_67 : decode cX12_canPlan 67 = .ok (.if_icmp .ge 29, 3) := by decide +kernel
theorem dX12_canPlan_70 : decode cX12_canPlan 70 = .ok (.aload_n 0, 1) := by decide +kernel
theorem dX12_canPlan_71 : decode cX12_canPlan 71 = .ok (.getfield 65, 3) := by decide +kernel
theorem dX12_canPlan_74 : decode cX12_canPlan 74 = .ok (.iload_n 3, 1) := by decide +kernel
theorem dX12_canPlan_75 : decode cX12_canPlan 75 = .ok (.iaload, 1) := by decide +kernel
theorem dX12_canPlan_76 : decode cX12_canPlan 76 = .ok (.ifCond .le 20, 3) := by decide +kernel
theorem dX12_canPlan_79 : decode cX12_canPlan 79 = .ok (.iload_n 1, 1) := by decide +kernel
theorem dX12_canPlan_80 : decode cX12_canPlan 80 = .ok (.aload_n 0, 1) := by decide +kernel
theorem dX12_canPlan_81 : decode cX12_canPlan 81 = .ok (.iload_n 3, 1) := by decide +kernel
theorem dX12_canPlan_82 : decode cX12_canPlan 82 = .ok (.iload 4, 2) := by decide +kernel
theorem dX12_canPlan_84 : decode cX12_canPlan 84 = .ok (.iload_n 2, 1) := by decide +kernel
theorem dX12_canPlan_85 : decode cX12_canPlan 85 = .ok (.invokevirtual 358, 3) := by decide +kernel
theorem dX12_canPlan_88 : decode cX12_canPlan 88 = .ok (.iand, 1) := by decide +kernel
theorem dX12_canPlan_89 : decode cX12_canPlan 89 = .ok (.istore_n 1, 1) := by decide +kernel
theorem dX12_canPlan_90 : decode cX12_canPlan 90 = .ok (.iinc 4 1, 3) := by decide +kernel
theorem dX12_canPlan_93 : decode cX12_canPlan 93 = .ok (.goto (-29), 3) := by decide +kernel
theorem dX12_canPlan_96 : decode cX12_canPlan 96 = .ok (.iinc 3 1, 3) := by decide +kernel
theorem dX12_canPlan_99 : decode cX12_canPlan 99 = .ok (.goto (-46), 3) := by decide +kernel
theorem dX12_canPlan_102 : decode cX12_canPlan 102 = .ok (.iload_n 1, 1) := by decide +kernel
theorem dX12_canPlan_103 : decode cX12_canPlan 103 = .ok (.ireturn, 1) := by decide +kernel
theorem dX12_lists_0 : decode cX12_lists 0 = .ok (.aload_n 0, 1) := by decide +kernel
theorem dX12_lists_1 : decode cX12_lists 1 = .ok (.getfield 160, 3) := by decide +kernel
theorem dX12_lists_4 : decode cX12_lists 4 = .ok (.aload_n 0, 1) := by decide +kernel
theorem dX12_lists_5 : decode cX12_lists 5 = .ok (.getfield 361, 3) := by decide +kernel
theorem dX12_lists_8 : decode cX12_lists 8 = .ok (.bipush 100, 2) := by decide +kernel
theorem dX12_lists_10 : decode cX12_lists 10 = .ok (.iload_n 1, 1) := by decide +kernel
theorem dX12_lists_11 : decode cX12_lists 11 = .ok (.imul, 1) := by decide +kernel
theorem dX12_lists_12 : decode cX12_lists 12 = .ok (.iload_n 2, 1) := by decide +kernel
theorem dX12_lists_13 : decode cX12_lists 13 = .ok (.iadd, 1) := by decide +kernel
theorem dX12_lists_14 : decode cX12_lists 14 = .ok (.iastore, 1) := by decide +kernel
theorem dX12_lists_15 : decode cX12_lists 15 = .ok (.aload_n 0, 1) := by decide +kernel
theorem dX12_lists_16 : decode cX12_lists 16 = .ok (.dup, 1) := by decide +kernel
theorem dX12_lists_17 : decode cX12_lists 17 = .ok (.getfield 361, 3) := by decide +kernel
theorem dX12_lists_20 : decode cX12_lists 20 = .ok (.iconst 1, 1) := by decide +kernel
theorem dX12_lists_21 : decode cX12_lists 21 = .ok (.iadd, 1) := by decide +kernel
theorem dX12_lists_22 : decode cX12_lists 22 = .ok (.putfield 361, 3) := by decide +kernel
theorem dX12_lists_25 : decode cX12_lists 25 = .ok (.return_, 1) := by decide +kernel
theorem dX12_plansNow_0 : decode cX12_plansNow 0 = .ok (.aload_n 0, 1) := by decide +kernel
theorem dX12_plansNow_1 : decode cX12_plansNow 1 = .ok (.invokevirtual 364, 3) := by decide +kernel
theorem dX12_plansNow_4 : decode cX12_plansNow 4 = .ok (.aload_n 0, 1) := by decide +kernel
theorem dX12_plansNow_5 : decode cX12_plansNow 5 = .ok (.iconst 0, 1) := by decide +kernel
theorem dX12_plansNow_6 : decode cX12_plansNow 6 = .ok (.putfield 361, 3) := by decide +kernel
theorem dX12_plansNow_9 : decode cX12_plansNow 9 = .ok (.bipush 16, 2) := by decide +kernel
theorem dX12_plansNow_11 : decode cX12_plansNow 11 = .ok (.aload_n 0, 1) := by decide +kernel
theorem dX12_plansNow_12 : decode cX12_plansNow 12 = .ok (.getfield 312, 3) := by decide +kernel
theorem dX12_plansNow_15 : decode cX12_plansNow 15 = .ok (.imul, 1) := by decide +kernel
theorem dX12_plansNow_16 : decode cX12_plansNow 16 = .ok (.istore_n 1, 1) := by decide +kernel
theorem dX12_plansNow_17 : decode cX12_plansNow 17 = .ok (.iconst 0, 1) := by decide +kernel
theorem dX12_plansNow_18 : decode cX12_plansNow 18 = .ok (.istore_n 2, 1) := by decide +kernel
theorem dX12_plansNow_19 : decode cX12_plansNow 19 = .ok (.iload_n 2, 1) := by decide +kernel
theorem dX12_plansNow_20 : decode cX12_plansNow 20 = .ok (.iload_n 1, 1) := by decide +kernel
theorem dX12_plansNow_21 : decode cX12_plansNow 21 = .ok (.if_icmp .ge 86, 3) := by decide +kernel
theorem dX12_plansNow_24 : decode cX12_plansNow 24 = .ok (.aload_n 0, 1) := by decide +kernel
theorem dX12_plansNow_25 : decode cX12_plansNow 25 = .ok (.getfield 53, 3) := by decide +kernel
theorem dX12_plansNow_28 : decode cX12_plansNow 28 = .ok (.aload_n 0, 1) := by decide +kernel
theorem dX12_plansNow_29 : decode cX12_plansNow 29 = .ok (.getfield 62, 3) := by decide +kernel
theorem dX12_plansNow_32 : decode cX12_plansNow 32 = .ok (.iload_n 2, 1) := by decide +kernel
theorem dX12_plansNow_33 : decode cX12_plansNow 33 = .ok (.bipush 16, 2) := by decide +kernel
theorem dX12_plansNow_35 : decode cX12_plansNow 35 = .ok (.idiv, 1) := by decide +kernel
theorem dX12_plansNow_36 : decode cX12_plansNow 36 = .ok (.iaload, 1) := by decide +kernel
theorem dX12_plansNow_37 : decode cX12_plansNow 37 = .ok (.baload, 1) := by decide +kernel
theorem dX12_plansNow_38 : decode cX12_plansNow 38 = .ok (.istore_n 3, 1) := by decide +kernel
theorem dX12_plansNow_39 : decode cX12_plansNow 39 = .ok (.aload_n 0, 1) := by decide +kernel
theorem dX12_plansNow_40 : decode cX12_plansNow 40 = .ok (.getfield 157, 3) := by decide +kernel
theorem dX12_plansNow_43 : decode cX12_plansNow 43 = .ok (.iload_n 2, 1) := by decide +kernel
theorem dX12_plansNow_44 : decode cX12_plansNow 44 = .ok (.iaload, 1) := by decide +kernel
theorem dX12_plansNow_45 : decode cX12_plansNow 45 = .ok (.iconst 3, 1) := by decide +kernel
theorem dX12_plansNow_46 : decode cX12_plansNow 46 = .ok (.if_icmp .ne 13, 3) := by decide +kernel
theorem dX12_plansNow_49 : decode cX12_plansNow 49 = .ok (.iload_n 3, 1) := by decide +kernel
theorem dX12_plansNow_50 : decode cX12_plansNow 50 = .ok (.ifCond .ne 9, 3) := by decide +kernel
theorem dX12_plansNow_53 : decode cX12_plansNow 53 = .ok (.aload_n 0, 1) := by decide +kernel
theorem dX12_plansNow_54 : decode cX12_plansNow 54 = .ok (.iconst 3, 1) := by decide +kernel
theorem dX12_plansNow_55 : decode cX12_plansNow 55 = .ok (.iload_n 2, 1) := by decide +kernel
theorem dX12_plansNow_56 : decode cX12_plansNow 56 = .ok (.invokevirtual 367, 3) := by decide +kernel
theorem dX12_plansNow_59 : decode cX12_plansNow 59 = .ok (.aload_n 0, 1) := by decide +kernel
theorem dX12_plansNow_60 : decode cX12_plansNow 60 = .ok (.getfield 157, 3) := by decide +kernel
theorem dX12_plansNow_63 : decode cX12_plansNow 63 = .ok (.iload_n 2, 1) := by decide +kernel
theorem dX12_plansNow_64 : decode cX12_plansNow 64 = .ok (.iaload, 1) := by decide +kernel
theorem dX12_plansNow_65 : decode cX12_plansNow 65 = .ok (.iconst 1, 1) := by decide +kernel
theorem dX12_plansNow_66 : decode cX12_plansNow 66 = .ok (.if_icmp .eq 13, 3) := by decide +kernel
theorem dX12_plansNow_69 : decode cX12_plansNow 69 = .ok (.aload_n 0, 1) := by decide +kernel
theorem dX12_plansNow_70 : decode cX12_plansNow 70 = .ok (.getfield 157, 3) := by decide +kernel
theorem dX12_plansNow_73 : decode cX12_plansNow 73 = .ok (.iload_n 2, 1) := by decide +kernel
theorem dX12_plansNow_74 : decode cX12_plansNow 74 = .ok (.iaload, 1) := by decide +kernel
theorem dX12_plansNow_75 : decode cX12_plansNow 75 = .ok (.iconst 3, 1) := by decide +kernel
theorem dX12_plansNow_76 : decode cX12_plansNow 76 = .ok (.if_icmp .ne 9, 3) := by decide +kernel
theorem dX12_plansNow_79 : decode cX12_plansNow 79 = .ok (.aload_n 0, 1) := by decide +kernel
theorem dX12_plansNow_80 : decode cX12_plansNow 80 = .ok (.iconst 1, 1) := by decide +kernel
theorem dX12_plansNow_81 : decode cX12_plansNow 81 = .ok (.iload_n 2, 1) := by decide +kernel
theorem dX12_plansNow_82 : decode cX12_plansNow 82 = .ok (.invokevirtual 367, 3) := by decide +kernel
theorem dX12_plansNow_85 : decode cX12_plansNow 85 = .ok (.aload_n 0, 1) := by decide +kernel
theorem dX12_plansNow_86 : decode cX12_plansNow 86 = .ok (.getfield 157, 3) := by decide +kernel
theorem dX12_plansNow_89 : decode cX12_plansNow 89 = .ok (.iload_n 2, 1) := by decide +kernel
theorem dX12_plansNow_90 : decode cX12_plansNow 90 = .ok (.iaload, 1) := by decide +kernel
theorem dX12_plansNow_91 : decode cX12_plansNow 91 = .ok (.iconst 2, 1) := by decide +kernel
theorem dX12_plansNow_92 : decode cX12_plansNow 92 = .ok (.if_icmp .ne 9, 3) := by decide +kernel
theorem dX12_plansNow_95 : decode cX12_plansNow 95 = .ok (.aload_n 0, 1) := by decide +kernel
theorem dX12_plansNow_96 : decode cX12_plansNow 96 = .ok (.iconst 2, 1) := by decide +kernel
theorem dX12_plansNow_97 : decode cX12_plansNow 97 = .ok (.iload_n 2, 1) := by decide +kernel
theorem dX12_plansNow_98 : decode cX12_plansNow 98 = .ok (.invokevirtual 367, 3) := by decide +kernel
theorem dX12_plansNow_101 : decode cX12_plansNow 101 = .ok (.iinc 2 1, 3) := by decide +kernel
theorem dX12_plansNow_104 : decode cX12_plansNow 104 = .ok (.goto (-85), 3) := by decide +kernel
theorem dX12_plansNow_107 : decode cX12_plansNow 107 = .ok (.iload_n 1, 1) := by decide +kernel
theorem dX12_plansNow_108 : decode cX12_plansNow 108 = .ok (.iconst 1, 1) := by decide +kernel
theorem dX12_plansNow_109 : decode cX12_plansNow 109 = .ok (.isub, 1) := by decide +kernel
theorem dX12_plansNow_110 : decode cX12_plansNow 110 = .ok (.istore_n 2, 1) := by decide +kernel
theorem dX12_plansNow_111 : decode cX12_plansNow 111 = .ok (.iload_n 2, 1) := by decide +kernel
theorem dX12_plansNow_112 : decode cX12_plansNow 112 = .ok (.ifCond .lt 58, 3) := by decide +kernel
theorem dX12_plansNow_115 : decode cX12_plansNow 115 = .ok (.aload_n 0, 1) := by decide +kernel
theorem dX12_plansNow_116 : decode cX12_plansNow 116 = .ok (.getfield 157, 3) := by decide +kernel
theorem dX12_plansNow_119 : decode cX12_plansNow 119 = .ok (.iload_n 2, 1) := by decide +kernel
theorem dX12_plansNow_120 : decode cX12_plansNow 120 = .ok (.iaload, 1) := by decide +kernel
theorem dX12_plansNow_121 : decode cX12_plansNow 121 = .ok (.iconst 4, 1) := by decide +kernel
theorem dX12_plansNow_122 : decode cX12_plansNow 122 = .ok (.if_icmp .ne 9, 3) := by decide +kernel
theorem dX12_plansNow_125 : decode cX12_plansNow 125 = .ok (.aload_n 0, 1) := by decide +kernel
theorem dX12_plansNow_126 : decode cX12_plansNow 126 = .ok (.iconst 3, 1) := by decide +kernel
theorem dX12_plansNow_127 : decode cX12_plansNow 127 = .ok (.iload_n 2, 1) := by decide +kernel
theorem dX12_plansNow_128 : decode cX12_plansNow 128 = .ok (.invokevirtual 367, 3) := by decide +kernel
theorem dX12_plansNow_131 : decode cX12_plansNow 131 = .ok (.aload_n 0, 1) := by decide +kernel
theorem dX12_plansNow_132 : decode cX12_plansNow 132 = .ok (.getfield 157, 3) := by decide +kernel
theorem dX12_plansNow_135 : decode cX12_plansNow 135 = .ok (.iload_n 2, 1) := by decide +kernel
theorem dX12_plansNow_136 : decode cX12_plansNow 136 = .ok (.iaload, 1) := by decide +kernel
theorem dX12_plansNow_137 : decode cX12_plansNow 137 = .ok (.iconst 3, 1) := by decide +kernel
theorem dX12_plansNow_138 : decode cX12_plansNow 138 = .ok (.if_icmp .ne 26, 3) := by decide +kernel
theorem dX12_plansNow_141 : decode cX12_plansNow 141 = .ok (.aload_n 0, 1) := by decide +kernel
theorem dX12_plansNow_142 : decode cX12_plansNow 142 = .ok (.getfield 53, 3) := by decide +kernel
theorem dX12_plansNow_145 : decode cX12_plansNow 145 = .ok (.aload_n 0, 1) := by decide +kernel
theorem dX12_plansNow_146 : decode cX12_plansNow 146 = .ok (.getfield 62, 3) := by decide +kernel
theorem dX12_plansNow_149 : decode cX12_plansNow 149 = .ok (.iload_n 2, 1) := by decide +kernel
theorem dX12_plansNow_150 : decode cX12_plansNow 150 = .ok (.bipush 16, 2) := by decide +kernel
theorem dX12_plansNow_152 : decode cX12_plansNow 152 = .ok (.idiv, 1) := by decide +kernel
theorem dX12_plansNow_153 : decode cX12_plansNow 153 = .ok (.iaload, 1) := by decide +kernel
theorem dX12_plansNow_154 : decode cX12_plansNow 154 = .ok (.baload, 1) := by decide +kernel
theorem dX12_plansNow_155 : decode cX12_plansNow 155 = .ok (.ifCond .eq 9, 3) := by decide +kernel
theorem dX12_plansNow_158 : decode cX12_plansNow 158 = .ok (.aload_n 0, 1) := by decide +kernel
theorem dX12_plansNow_159 : decode cX12_plansNow 159 = .ok (.iconst 4, 1) := by decide +kernel
theorem dX12_plansNow_160 : decode cX12_plansNow 160 = .ok (.iload_n 2, 1) := by decide +kernel
theorem dX12_plansNow_161 : decode cX12_plansNow 161 = .ok (.invokevirtual 367, 3) := by decide +kernel
theorem dX12_plansNow_164 : decode cX12_plansNow 164 = .ok (.iinc 2 (-1), 3) := by decide +kernel
theorem dX12_plansNow_167 : decode cX12_plansNow 167 = .ok (.goto (-56), 3) := by decide +kernel
theorem dX12_plansNow_170 : decode cX12_plansNow 170 = .ok (.aload_n 0, 1) := by decide +kernel
theorem dX12_plansNow_171 : decode cX12_plansNow 171 = .ok (.invokevirtual 371, 3) := by decide +kernel
theorem dX12_plansNow_174 : decode cX12_plansNow 174 = .ok (.ireturn, 1) := by decide +kernel
theorem dX12_asksName_0 : decode cX12_asksName 0 = .ok (.aload_n 0, 1) := by decide +kernel
theorem dX12_asksName_1 : decode cX12_asksName 1 = .ok (.aload_n 0, 1) := by decide +kernel
theorem dX12_asksName_2 : decode cX12_asksName 2 = .ok (.iload_n 1, 1) := by decide +kernel
theorem dX12_asksName_3 : decode cX12_asksName 3 = .ok (.invokevirtual 374, 3) := by decide +kernel
theorem dX12_asksName_6 : decode cX12_asksName 6 = .ok (.ifCond .eq 7, 3) := by decide +kernel
theorem dX12_asksName_9 : decode cX12_asksName 9 = .ok (.iconst 0, 1) := by decide +kernel
theorem dX12_asksName_10 : decode cX12_asksName 10 = .ok (.goto 4, 3) := by decide +kernel
theorem dX12_asksName_13 : decode cX12_asksName 13 = .ok (.iconst 1, 1) := by decide +kernel
theorem dX12_asksName_14 : decode cX12_asksName 14 = .ok (.putfield 166, 3) := by decide +kernel
theorem dX12_asksName_17 : decode cX12_asksName 17 = .ok (.aload_n 0, 1) := by decide +kernel
theorem dX12_asksName_18 : decode cX12_asksName 18 = .ok (.getfield 166, 3) := by decide +kernel
theorem dX12_asksName_21 : decode cX12_asksName 21 = .ok (.ifCond .ne 7, 3) := by decide +kernel
theorem dX12_asksName_24 : decode cX12_asksName 24 = .ok (.iconst 1, 1) := by decide +kernel
theorem dX12_asksName_25 : decode cX12_asksName 25 = .ok (.goto 4, 3) := by decide +kernel
theorem dX12_asksName_28 : decode cX12_asksName 28 = .ok (.iconst 0, 1) := by decide +kernel
theorem dX12_asksName_29 : decode cX12_asksName 29 = .ok (.ireturn, 1) := by decide +kernel
theorem dX12_given_0 : decode cX12_given 0 = .ok (.aload_n 0, 1) := by decide +kernel
theorem dX12_given_1 : decode cX12_given 1 = .ok (.aload_n 0, 1) := by decide +kernel
theorem dX12_given_2 : decode cX12_given 2 = .ok (.iload_n 1, 1) := by decide +kernel
theorem dX12_given_3 : decode cX12_given 3 = .ok (.invokevirtual 374, 3) := by decide +kernel
theorem dX12_given_6 : decode cX12_given 6 = .ok (.ifCond .eq 16, 3) := by decide +kernel
theorem dX12_given_9 : decode cX12_given 9 = .ok (.iload_n 2, 1) := by decide +kernel
theorem dX12_given_10 : decode cX12_given 10 = .ok (.iconst 0, 1) := by decide +kernel
theorem dX12_given_11 : decode cX12_given 11 = .ok (.iconst 2, 1) := by decide +kernel
theorem dX12_given_12 : decode cX12_given 12 = .ok (.invokestatic 169, 3) := by decide +kernel
theorem dX12_given_15 : decode cX12_given 15 = .ok (.ifCond .eq 7, 3) := by decide +kernel
theorem dX12_given_18 : decode cX12_given 18 = .ok (.iconst 0, 1) := by decide +kernel
theorem dX12_given_19 : decode cX12_given 19 = .ok (.goto 4, 3) := by decide +kernel
theorem dX12_given_22 : decode cX12_given 22 = .ok (.iconst 1, 1) := by decide +kernel
theorem dX12_given_23 : decode cX12_given 23 = .ok (.putfield 166, 3) := by decide +kernel
theorem dX12_given_26 : decode cX12_given 26 = .ok (.aload_n 0, 1) := by decide +kernel
theorem dX12_given_27 : decode cX12_given 27 = .ok (.getfield 166, 3) := by decide +kernel
theorem dX12_given_30 : decode cX12_given 30 = .ok (.ifCond .le 5, 3) := by decide +kernel
theorem dX12_given_33 : decode cX12_given 33 = .ok (.iconst 0, 1) := by decide +kernel
theorem dX12_given_34 : decode cX12_given 34 = .ok (.ireturn, 1) := by decide +kernel
theorem dX12_given_35 : decode cX12_given 35 = .ok (.aload_n 0, 1) := by decide +kernel
theorem dX12_given_36 : decode cX12_given 36 = .ok (.invokevirtual 364, 3) := by decide +kernel
theorem dX12_given_39 : decode cX12_given 39 = .ok (.aload_n 0, 1) := by decide +kernel
theorem dX12_given_40 : decode cX12_given 40 = .ok (.iload_n 1, 1) := by decide +kernel
theorem dX12_given_41 : decode cX12_given 41 = .ok (.iload_n 2, 1) := by decide +kernel
theorem dX12_given_42 : decode cX12_given 42 = .ok (.invokevirtual 346, 3) := by decide +kernel
theorem dX12_given_45 : decode cX12_given 45 = .ok (.ireturn, 1) := by decide +kernel
theorem dX12_pending_0 : decode cX12_pending 0 = .ok (.aload_n 0, 1) := by decide +kernel
theorem dX12_pending_1 : decode cX12_pending 1 = .ok (.iconst 0, 1) := by decide +kernel
theorem dX12_pending_2 : decode cX12_pending 2 = .ok (.putfield 166, 3) := by decide +kernel
theorem dX12_pending_5 : decode cX12_pending 5 = .ok (.aload_n 0, 1) := by decide +kernel
theorem dX12_pending_6 : decode cX12_pending 6 = .ok (.invokevirtual 377, 3) := by decide +kernel
theorem dX12_pending_9 : decode cX12_pending 9 = .ok (.ifCond .eq 10, 3) := by decide +kernel
theorem dX12_pending_12 : decode cX12_pending 12 = .ok (.aload_n 0, 1) := by decide +kernel
theorem dX12_pending_13 : decode cX12_pending 13 = .ok (.getfield 361, 3) := by decide +kernel
theorem dX12_pending_16 : decode cX12_pending 16 = .ok (.goto 4, 3) := by decide +kernel
theorem dX12_pending_19 : decode cX12_pending 19 = .ok (.iconst (-1), 1) := by decide +kernel
theorem dX12_pending_20 : decode cX12_pending 20 = .ok (.ireturn, 1) := by decide +kernel
theorem dX12_differing_0 : decode cX12_differing 0 = .ok (.aload_n 0, 1) := by decide +kernel
theorem dX12_differing_1 : decode cX12_differing 1 = .ok (.iconst 0, 1) := by decide +kernel
theorem dX12_differing_2 : decode cX12_differing 2 = .ok (.putfield 166, 3) := by decide +kernel
theorem dX12_differing_5 : decode cX12_differing 5 = .ok (.iconst 0, 1) := by decide +kernel
theorem dX12_differing_6 : decode cX12_differing 6 = .ok (.istore_n 1, 1) := by decide +kernel
theorem dX12_differing_7 : decode cX12_differing 7 = .ok (.aload_n 0, 1) := by decide +kernel
theorem dX12_differing_8 : decode cX12_differing 8 = .ok (.invokevirtual 377, 3) := by decide +kernel
theorem dX12_differing_11 : decode cX12_differing 11 = .ok (.istore_n 2, 1) := by decide +kernel
theorem dX12_differing_12 : decode cX12_differing 12 = .ok (.iconst 0, 1) := by decide +kernel
theorem dX12_differing_13 : decode cX12_differing 13 = .ok (.istore_n 3, 1) := by decide +kernel
theorem dX12_differing_14 : decode cX12_differing 14 = .ok (.iload_n 3, 1) := by decide +kernel
theorem dX12_differing_15 : decode cX12_differing 15 = .ok (.bipush 16, 2) := by decide +kernel
theorem dX12_differing_17 : decode cX12_differing 17 = .ok (.aload_n 0, 1) := by decide +kernel
theorem dX12_differing_18 : decode cX12_differing 18 = .ok (.getfield 312, 3) := by decide +kernel
theorem dX12_differing_21 : decode cX12_differing 21 = .ok (.imul, 1) := by decide +kernel
theorem dX12_differing_22 : decode cX12_differing 22 = .ok (.if_icmp .ge 26, 3) := by decide +kernel
theorem dX12_differing_25 : decode cX12_differing 25 = .ok (.iload_n 1, 1) := by decide +kernel
theorem dX12_differing_26 : decode cX12_differing 26 = .ok (.aload_n 0, 1) := by decide +kernel
theorem dX12_differing_27 : decode cX12_differing 27 = .ok (.getfield 157, 3) := by decide +kernel
theorem dX12_differing_30 : decode cX12_differing 30 = .ok (.iload_n 3, 1) := by decide +kernel
theorem dX12_differing_31 : decode cX12_differing 31 = .ok (.iaload, 1) := by decide +kernel
theorem dX12_differing_32 : decode cX12_differing 32 = .ok (.ifCond .le 7, 3) := by decide +kernel
theorem dX12_differing_35 : decode cX12_differing 35 = .ok (.iconst 1, 1) := by decide +kernel
theorem dX12_differing_36 : decode cX12_differing 36 = .ok (.goto 4, 3) := by decide +kernel
theorem dX12_differing_39 : decode cX12_differing 39 = .ok (.iconst 0, 1) := by decide +kernel
theorem dX12_differing_40 : decode cX12_differing 40 = .ok (.iadd, 1) := by decide +kernel
theorem dX12_differing_41 : decode cX12_differing 41 = .ok (.istore_n 1, 1) := by decide +kernel
theorem dX12_differing_42 : decode cX12_differing 42 = .ok (.iinc 3 1, 3) := by decide +kernel
theorem dX12_differing_45 : decode cX12_differing 45 = .ok (.goto (-31), 3) := by decide +kernel
theorem dX12_differing_48 : decode cX12_differing 48 = .ok (.iload_n 2, 1) := by decide +kernel
theorem dX12_differing_49 : decode cX12_differing 49 = .ok (.ifCond .eq 7, 3) := by decide +kernel
theorem dX12_differing_52 : decode cX12_differing 52 = .ok (.iload_n 1, 1) := by decide +kernel
theorem dX12_differing_53 : decode cX12_differing 53 = .ok (.goto 4, 3) := by decide +kernel
theorem dX12_differing_56 : decode cX12_differing 56 = .ok (.iconst (-1), 1) := by decide +kernel
theorem dX12_differing_57 : decode cX12_differing 57 = .ok (.ireturn, 1) := by decide +kernel
theorem dX12_isTeam_0 : decode cX12_isTeam 0 = .ok (.iload_n 0, 1) := by decide +kernel
theorem dX12_isTeam_1 : decode cX12_isTeam 1 = .ok (.iconst 0, 1) := by decide +kernel
theorem dX12_isTeam_2 : decode cX12_isTeam 2 = .ok (.iconst 2, 1) := by decide +kernel
theorem dX12_isTeam_3 : decode cX12_isTeam 3 = .ok (.invokestatic 169, 3) := by decide +kernel
theorem dX12_isTeam_6 : decode cX12_isTeam 6 = .ok (.ireturn, 1) := by decide +kernel
theorem dX12_plan_0 : decode cX12_plan 0 = .ok (.aload_n 0, 1) := by decide +kernel
theorem dX12_plan_1 : decode cX12_plan 1 = .ok (.iload_n 1, 1) := by decide +kernel
theorem dX12_plan_2 : decode cX12_plan 2 = .ok (.invokestatic 380, 3) := by decide +kernel
theorem dX12_plan_5 : decode cX12_plan 5 = .ok (.ifCond .ne 7, 3) := by decide +kernel
theorem dX12_plan_8 : decode cX12_plan 8 = .ok (.iconst 1, 1) := by decide +kernel
theorem dX12_plan_9 : decode cX12_plan 9 = .ok (.goto 24, 3) := by decide +kernel
theorem dX12_plan_12 : decode cX12_plan 12 = .ok (.aload_n 0, 1) := by decide +kernel
theorem dX12_plan_13 : decode cX12_plan 13 = .ok (.getfield 383, 3) := by decide +kernel
theorem dX12_plan_16 : decode cX12_plan 16 = .ok (.bipush 40, 2) := by decide +kernel
theorem dX12_plan_18 : decode cX12_plan 18 = .ok (.if_icmp .eq 10, 3) := by decide +kernel
theorem dX12_plan_21 : decode cX12_plan 21 = .ok (.aload_n 0, 1) := by decide +kernel
theorem dX12_plan_22 : decode cX12_plan 22 = .ok (.invokevirtual 377, 3) := by decide +kernel
theorem dX12_plan_25 : decode cX12_plan 25 = .ok (.ifCond .ne 7, 3) := by decide +kernel
theorem dX12_plan_28 : decode cX12_plan 28 = .ok (.iconst 2, 1) := by decide +kernel
theorem dX12_plan_29 : decode cX12_plan 29 = .ok (.goto 4, 3) := by decide +kernel
theorem dX12_plan_32 : decode cX12_plan 32 = .ok (.iconst 0, 1) := by decide +kernel
theorem dX12_plan_33 : decode cX12_plan 33 = .ok (.putfield 166, 3) := by decide +kernel
theorem dX12_plan_36 : decode cX12_plan 36 = .ok (.aload_n 0, 1) := by decide +kernel
theorem dX12_plan_37 : decode cX12_plan 37 = .ok (.getfield 166, 3) := by decide +kernel
theorem dX12_plan_40 : decode cX12_plan 40 = .ok (.ifCond .le 5, 3) := by decide +kernel
theorem dX12_plan_43 : decode cX12_plan 43 = .ok (.iconst 0, 1) := by decide +kernel
theorem dX12_plan_44 : decode cX12_plan 44 = .ok (.ireturn, 1) := by decide +kernel
theorem dX12_plan_45 : decode cX12_plan 45 = .ok (.aload_n 0, 1) := by decide +kernel
theorem dX12_plan_46 : decode cX12_plan 46 = .ok (.getfield 101, 3) := by decide +kernel
theorem dX12_plan_49 : decode cX12_plan 49 = .ok (.aload_n 0, 1) := by decide +kernel
theorem dX12_plan_50 : decode cX12_plan 50 = .ok (.getfield 383, 3) := by decide +kernel
theorem dX12_plan_53 : decode cX12_plan 53 = .ok (.iload_n 1, 1) := by decide +kernel
theorem dX12_plan_54 : decode cX12_plan 54 = .ok (.iastore, 1) := by decide +kernel
theorem dX12_plan_55 : decode cX12_plan 55 = .ok (.aload_n 0, 1) := by decide +kernel
theorem dX12_plan_56 : decode cX12_plan 56 = .ok (.getfield 104, 3) := by decide +kernel
theorem dX12_plan_59 : decode cX12_plan 59 = .ok (.aload_n 0, 1) := by decide +kernel
theorem dX12_plan_60 : decode cX12_plan 60 = .ok (.getfield 383, 3) := by decide +kernel
theorem dX12_plan_63 : decode cX12_plan 63 = .ok (.aload_n 0, 1) := by decide +kernel
theorem dX12_plan_64 : decode cX12_plan 64 = .ok (.getfield 343, 3) := by decide +kernel
theorem dX12_plan_67 : decode cX12_plan 67 = .ok (.iastore, 1) := by decide +kernel
theorem dX12_plan_68 : decode cX12_plan 68 = .ok (.aload_n 0, 1) := by decide +kernel
theorem dX12_plan_69 : decode cX12_plan 69 = .ok (.getfield 113, 3) := by decide +kernel
theorem dX12_plan_72 : decode cX12_plan 72 = .ok (.aload_n 0, 1) := by decide +kernel
theorem dX12_plan_73 : decode cX12_plan 73 = .ok (.getfield 383, 3) := by decide +kernel
theorem dX12_plan_76 : decode cX12_plan 76 = .ok (.aload_n 0, 1) := by decide +kernel
theorem dX12_plan_77 : decode cX12_plan 77 = .ok (.getfield 361, 3) := by decide +kernel
theorem dX12_plan_80 : decode cX12_plan 80 = .ok (.iastore, 1) := by decide +kernel
theorem dX12_plan_81 : decode cX12_plan 81 = .ok (.iconst 0, 1) := by decide +kernel
theorem dX12_plan_82 : decode cX12_plan 82 = .ok (.istore_n 2, 1) := by decide +kernel
theorem dX12_plan_83 : decode cX12_plan 83 = .ok (.iload_n 2, 1) := by decide +kernel
theorem dX12_plan_84 : decode cX12_plan 84 = .ok (.aload_n 0, 1) := by decide +kernel
theorem dX12_plan_85 : decode cX12_plan 85 = .ok (.getfield 361, 3) := by decide +kernel
theorem dX12_plan_88 : decode cX12_plan 88 = .ok (.if_icmp .ge 30, 3) := by decide +kernel
theorem dX12_plan_91 : decode cX12_plan 91 = .ok (.aload_n 0, 1) := by decide +kernel
theorem dX12_plan_92 : decode cX12_plan 92 = .ok (.getfield 116, 3) := by decide +kernel
theorem dX12_plan_95 : decode cX12_plan 95 = .ok (.sipush 128, 3) := by decide +kernel
theorem dX12_plan_98 : decode cX12_plan 98 = .ok (.aload_n 0, 1) := by decide +kernel
theorem dX12_plan_99 : decode cX12_plan 99 = .ok (.getfield 383, 3) := by decide +kernel
theorem dX12_plan_102 : decode cX12_plan 102 = .ok (.imul, 1) := by decide +kernel
theorem dX12_plan_103 : decode cX12_plan 103 = .ok (.iload_n 2, 1) := by decide +kernel
theorem dX12_plan_104 : decode cX12_plan 104 = .ok (.iadd, 1) := by decide +kernel
theorem dX12_plan_105 : decode cX12_plan 105 = .ok (.aload_n 0, 1) := by decide +kernel
theorem dX12_plan_106 : decode cX12_plan 106 = .ok (.getfield 160, 3) := by decide +kernel
theorem dX12_plan_109 : decode cX12_plan 109 = .ok (.iload_n 2, 1) := by decide +kernel
theorem dX12_plan_110 : decode cX12_plan 110 = .ok (.iaload, 1) := by decide +kernel
theorem dX12_plan_111 : decode cX12_plan 111 = .ok (.iastore, 1) := by decide +kernel
theorem dX12_plan_112 : decode cX12_plan 112 = .ok (.iinc 2 1, 3) := by decide +kernel
theorem dX12_plan_115 : decode cX12_plan 115 = .ok (.goto (-32), 3) := by decide +kernel
theorem dX12_plan_118 : decode cX12_plan 118 = .ok (.aload_n 0, 1) := by decide +kernel
theorem dX12_plan_119 : decode cX12_plan 119 = .ok (.dup, 1) := by decide +kernel
theorem dX12_plan_120 : decode cX12_plan 120 = .ok (.getfield 383, 3) := by decide +kernel
theorem dX12_plan_123 : decode cX12_plan 123 = .ok (.iconst 1, 1) := by decide +kernel
theorem dX12_plan_124 : decode cX12_plan 124 = .ok (.iadd, 1) := by decide +kernel
theorem dX12_plan_125 : decode cX12_plan 125 = .ok (.putfield 383, 3) := by decide +kernel
theorem dX12_plan_128 : decode cX12_plan 128 = .ok (.aload_n 0, 1) := by decide +kernel
theorem dX12_plan_129 : decode cX12_plan 129 = .ok (.getfield 383, 3) := by decide +kernel
theorem dX12_plan_132 : decode cX12_plan 132 = .ok (.iconst 1, 1) := by decide +kernel
theorem dX12_plan_133 : decode cX12_plan 133 = .ok (.isub, 1) := by decide +kernel
theorem dX12_plan_134 : decode cX12_plan 134 = .ok (.ireturn, 1) := by decide +kernel
theorem dX12_isPlan_0 : decode cX12_isPlan 0 = .ok (.iload_n 1, 1) := by decide +kernel
theorem dX12_isPlan_1 : decode cX12_isPlan 1 = .ok (.iconst 0, 1) := by decide +kernel
theorem dX12_isPlan_2 : decode cX12_isPlan 2 = .ok (.aload_n 0, 1) := by decide +kernel
theorem dX12_isPlan_3 : decode cX12_isPlan 3 = .ok (.getfield 383, 3) := by decide +kernel
theorem dX12_isPlan_6 : decode cX12_isPlan 6 = .ok (.iconst 1, 1) := by decide +kernel
theorem dX12_isPlan_7 : decode cX12_isPlan 7 = .ok (.isub, 1) := by decide +kernel
theorem dX12_isPlan_8 : decode cX12_isPlan 8 = .ok (.invokestatic 169, 3) := by decide +kernel
theorem dX12_isPlan_11 : decode cX12_isPlan 11 = .ok (.ireturn, 1) := by decide +kernel
theorem dX12_action_0 : decode cX12_action 0 = .ok (.aload_n 0, 1) := by decide +kernel
theorem dX12_action_1 : decode cX12_action 1 = .ok (.aload_n 0, 1) := by decide +kernel
theorem dX12_action_2 : decode cX12_action 2 = .ok (.iload_n 1, 1) := by decide +kernel
theorem dX12_action_3 : decode cX12_action 3 = .ok (.invokevirtual 386, 3) := by decide +kernel
theorem dX12_action_6 : decode cX12_action 6 = .ok (.ifCond .eq 23, 3) := by decide +kernel
theorem dX12_action_9 : decode cX12_action 9 = .ok (.iload_n 2, 1) := by decide +kernel
theorem dX12_action_10 : decode cX12_action 10 = .ok (.iconst 0, 1) := by decide +kernel
theorem dX12_action_11 : decode cX12_action 11 = .ok (.aload_n 0, 1) := by decide +kernel
theorem dX12_action_12 : decode cX12_action 12 = .ok (.getfield 113, 3) := by decide +kernel
theorem dX12_action_15 : decode cX12_action 15 = .ok (.iload_n 1, 1) := by decide +kernel
theorem dX12_action_16 : decode cX12_action 16 = .ok (.iaload, 1) := by decide +kernel
theorem dX12_action_17 : decode cX12_action 17 = .ok (.iconst 1, 1) := by decide +kernel
theorem dX12_action_18 : decode cX12_action 18 = .ok (.isub, 1) := by decide +kernel
theorem dX12_action_19 : decode cX12_action 19 = .ok (.invokestatic 169, 3) := by decide +kernel
theorem dX12_action_22 : decode cX12_action 22 = .ok (.ifCond .eq 7, 3) := by decide +kernel
theorem dX12_action_25 : decode cX12_action 25 = .ok (.iconst 0, 1) := by decide +kernel
theorem dX12_action_26 : decode cX12_action 26 = .ok (.goto 4, 3) := by decide +kernel
theorem dX12_action_29 : decode cX12_action 29 = .ok (.iconst 1, 1) := by decide +kernel
theorem dX12_action_30 : decode cX12_action 30 = .ok (.putfield 166, 3) := by decide +kernel
theorem dX12_action_33 : decode cX12_action 33 = .ok (.aload_n 0, 1) := by decide +kernel
theorem dX12_action_34 : decode cX12_action 34 = .ok (.getfield 166, 3) := by decide +kernel
theorem dX12_action_37 : decode cX12_action 37 = .ok (.ifCond .le 7, 3) := by decide +kernel
theorem dX12_action_40 : decode cX12_action 40 = .ok (.iconst 0, 1) := by decide +kernel
theorem dX12_action_41 : decode cX12_action 41 = .ok (.goto 15, 3) := by decide +kernel
theorem dX12_action_44 : decode cX12_action 44 = .ok (.aload_n 0, 1) := by decide +kernel
theorem dX12_action_45 : decode cX12_action 45 = .ok (.getfield 116, 3) := by decide +kernel
theorem dX12_action_48 : decode cX12_action 48 = .ok (.sipush 128, 3) := by decide +kernel
theorem dX12_action_51 : decode cX12_action 51 = .ok (.iload_n 1, 1) := by decide +kernel
theorem dX12_action_52 : decode cX12_action 52 = .ok (.imul, 1) := by decide +kernel
theorem dX12_action_53 : decode cX12_action 53 = .ok (.iload_n 2, 1) := by decide +kernel
theorem dX12_action_54 : decode cX12_action 54 = .ok (.iadd, 1) := by decide +kernel
theorem dX12_action_55 : decode cX12_action 55 = .ok (.iaload, 1) := by decide +kernel
theorem dX12_action_56 : decode cX12_action 56 = .ok (.ireturn, 1) := by decide +kernel
theorem dX12_approve_0 : decode cX12_approve 0 = .ok (.aload_n 0, 1) := by decide +kernel
theorem dX12_approve_1 : decode cX12_approve 1 = .ok (.aload_n 0, 1) := by decide +kernel
theorem dX12_approve_2 : decode cX12_approve 2 = .ok (.iload_n 1, 1) := by decide +kernel
theorem dX12_approve_3 : decode cX12_approve 3 = .ok (.invokevirtual 386, 3) := by decide +kernel
theorem dX12_approve_6 : decode cX12_approve 6 = .ok (.ifCond .eq 10, 3) := by decide +kernel
theorem dX12_approve_9 : decode cX12_approve 9 = .ok (.iload_n 2, 1) := by decide +kernel
theorem dX12_approve_10 : decode cX12_approve 10 = .ok (.invokestatic 380, 3) := by decide +kernel
theorem dX12_approve_13 : decode cX12_approve 13 = .ok (.ifCond .ne 7, 3) := by decide +kernel
theorem dX12_approve_16 : decode cX12_approve 16 = .ok (.iconst 1, 1) := by decide +kernel
theorem dX12_approve_17 : decode cX12_approve 17 = .ok (.goto 18, 3) := by decide +kernel
theorem dX12_approve_20 : decode cX12_approve 20 = .ok (.aload_n 0, 1) := by decide +kernel
theorem dX12_approve_21 : decode cX12_approve 21 = .ok (.getfield 101, 3) := by decide +kernel
theorem dX12_approve_24 : decode cX12_approve 24 = .ok (.iload_n 1, 1) := by decide +kernel
theorem dX12_approve_25 : decode cX12_approve 25 = .ok (.iaload, 1) := by decide +kernel
theorem dX12_approve_26 : decode cX12_approve 26 = .ok (.iload_n 2, 1) := by decide +kernel
theorem dX12_approve_27 : decode cX12_approve 27 = .ok (.if_icmp .ne 7, 3) := by decide +kernel
theorem dX12_approve_30 : decode cX12_approve 30 = .ok (.iconst 2, 1) := by decide +kernel
theorem dX12_approve_31 : decode cX12_approve 31 = .ok (.goto 4, 3) := by decide +kernel
theorem dX12_approve_34 : decode cX12_approve 34 = .ok (.iconst 0, 1) := by decide +kernel
theorem dX12_approve_35 : decode cX12_approve 35 = .ok (.putfield 166, 3) := by decide +kernel
theorem dX12_approve_38 : decode cX12_approve 38 = .ok (.aload_n 0, 1) := by decide +kernel
theorem dX12_approve_39 : decode cX12_approve 39 = .ok (.getfield 166, 3) := by decide +kernel
theorem dX12_approve_42 : decode cX12_approve 42 = .ok (.ifCond .le 5, 3) := by decide +kernel
theorem dX12_approve_45 : decode cX12_approve 45 = .ok (.iconst 0, 1) := by decide +kernel
theorem dX12_approve_46 : decode cX12_approve 46 = .ok (.ireturn, 1) := by decide +kernel
theorem dX12_approve_47 : decode cX12_approve 47 = .ok (.aload_n 0, 1) := by decide +kernel
theorem dX12_approve_48 : decode cX12_approve 48 = .ok (.getfield 107, 3) := by decide +kernel
theorem dX12_approve_51 : decode cX12_approve 51 = .ok (.iload_n 1, 1) := by decide +kernel
theorem dX12_approve_52 : decode cX12_approve 52 = .ok (.baload, 1) := by decide +kernel
theorem dX12_approve_53 : decode cX12_approve 53 = .ok (.istore_n 3, 1) := by decide +kernel
theorem dX12_approve_54 : decode cX12_approve 54 = .ok (.aload_n 0, 1) := by decide +kernel
theorem dX12_approve_55 : decode cX12_approve 55 = .ok (.getfield 107, 3) := by decide +kernel
theorem dX12_approve_58 : decode cX12_approve 58 = .ok (.iload_n 1, 1) := by decide +kernel
theorem dX12_approve_59 : decode cX12_approve 59 = .ok (.iconst 1, 1) := by decide +kernel
theorem dX12_approve_60 : decode cX12_approve 60 = .ok (.bastore, 1) := by decide +kernel
theorem dX12_approve_61 : decode cX12_approve 61 = .ok (.iload_n 3, 1) := by decide +kernel
theorem dX12_approve_62 : decode cX12_approve 62 = .ok (.ifCond .ne 7, 3) := by decide +kernel
theorem dX12_approve_65 : decode cX12_approve 65 = .ok (.iconst 1, 1) := by decide +kernel
theorem dX12_approve_66 : decode cX12_approve 66 = .ok (.goto 4, 3) := by decide +kernel
theorem dX12_approve_69 : decode cX12_approve 69 = .ok (.iconst 0, 1) := by decide +kernel
theorem dX12_approve_70 : decode cX12_approve 70 = .ok (.ireturn, 1) := by decide +kernel
theorem dX12_hasAll_0 : decode cX12_hasAll 0 = .ok (.aload_n 0, 1) := by decide +kernel
theorem dX12_hasAll_1 : decode cX12_hasAll 1 = .ok (.invokevirtual 377, 3) := by decide +kernel
theorem dX12_hasAll_4 : decode cX12_hasAll 4 = .ok (.istore_n 2, 1) := by decide +kernel
theorem dX12_hasAll_5 : decode cX12_hasAll 5 = .ok (.iconst 0, 1) := by decide +kernel
theorem dX12_hasAll_6 : decode cX12_hasAll 6 = .ok (.istore_n 3, 1) := by decide +kernel
theorem dX12_hasAll_7 : decode cX12_hasAll 7 = .ok (.iload_n 3, 1) := by decide +kernel
theorem dX12_hasAll_8 : decode cX12_hasAll 8 = .ok (.aload_n 0, 1) := by decide +kernel
theorem dX12_hasAll_9 : decode cX12_hasAll 9 = .ok (.getfield 113, 3) := by decide +kernel
theorem dX12_hasAll_12 : decode cX12_hasAll 12 = .ok (.iload_n 1, 1) := by decide +kernel
theorem dX12_hasAll_13 : decode cX12_hasAll 13 = .ok (.iaload, 1) := by decide +kernel
theorem dX12_hasAll_14 : decode cX12_hasAll 14 = .ok (.if_icmp .ge 67, 3) := by decide +kernel
theorem dX12_hasAll_17 : decode cX12_hasAll 17 = .ok (.iconst 0, 1) := by decide +kernel
theorem dX12_hasAll_18 : decode cX12_hasAll 18 = .ok (.istore 4, 2) := by decide +kernel
theorem dX12_hasAll_20 : decode cX12_hasAll 20 = .ok (.iconst 0, 1) := by decide +kernel
theorem dX12_hasAll_21 : decode cX12_hasAll 21 = .ok (.istore 5, 2) := by decide +kernel
theorem dX12_hasAll_23 : decode cX12_hasAll 23 = .ok (.iload 5, 2) := by decide +kernel
theorem dX12_hasAll_25 : decode cX12_hasAll 25 = .ok (.aload_n 0, 1) := by decide +kernel
theorem dX12_hasAll_26 : decode cX12_hasAll 26 = .ok (.getfield 361, 3) := by decide +kernel
theorem dX12_hasAll_29 : decode cX12_hasAll 29 = .ok (.if_icmp .ge 41, 3) := by decide +kernel
theorem dX12_hasAll_32 : decode cX12_hasAll 32 = .ok (.iload 4, 2) := by decide +kernel
theorem dX12_hasAll_34 : decode cX12_hasAll 34 = .ok (.aload_n 0, 1) := by decide +kernel
theorem dX12_hasAll_35 : decode cX12_hasAll 35 = .ok (.getfield 160, 3) := by decide +kernel
theorem dX12_hasAll_38 : decode cX12_hasAll 38 = .ok (.iload 5, 2) := by decide +kernel
theorem dX12_hasAll_40 : decode cX12_hasAll 40 = .ok (.iaload, 1) := by decide +kernel
theorem dX12_hasAll_41 : decode cX12_hasAll 41 = .ok (.aload_n 0, 1) := by decide +kernel
theorem dX12_hasAll_42 : decode cX12_hasAll 42 = .ok (.getfield 116, 3) := by decide +kernel
theorem dX12_hasAll_45 : decode cX12_hasAll 45 = .ok (.sipush 128, 3) := by decide +kernel
theorem dX12_hasAll_48 : decode cX12_hasAll 48 = .ok (.iload_n 1, 1) := by decide +kernel
theorem dX12_hasAll_49 : decode cX12_hasAll 49 = .ok (.imul, 1) := by decide +kernel
theorem dX12_hasAll_50 : decode cX12_hasAll 50 = .ok (.iload_n 3, 1) := by decide +kernel
theorem dX12_hasAll_51 : decode cX12_hasAll 51 = .ok (.iadd, 1) := by decide +kernel
theorem dX12_hasAll_52 : decode cX12_hasAll 52 = .ok (.iaload, 1) := by decide +kernel
theorem dX12_hasAll_53 : decode cX12_hasAll 53 = .ok (.if_icmp .ne 7, 3) := by decide +kernel
theorem dX12_hasAll_56 : decode cX12_hasAll 56 = .ok (.iconst 1, 1) := by decide +kernel
theorem dX12_hasAll_57 : decode cX12_hasAll 57 = .ok (.goto 4, 3) := by decide +kernel
theorem dX12_hasAll_60 : decode cX12_hasAll 60 = .ok (.iconst 0, 1) := by decide +kernel
theorem dX12_hasAll_61 : decode cX12_hasAll 61 = .ok (.ior, 1) := by decide +kernel
theorem dX12_hasAll_62 : decode cX12_hasAll 62 = .ok (.istore 4, 2) := by decide +kernel
theorem dX12_hasAll_64 : decode cX12_hasAll 64 = .ok (.iinc 5 1, 3) := by decide +kernel
theorem dX12_hasAll_67 : decode cX12_hasAll 67 = .ok (.goto (-44), 3) := by decide +kernel
theorem dX12_hasAll_70 : decode cX12_hasAll 70 = .ok (.iload_n 2, 1) := by decide +kernel
theorem dX12_hasAll_71 : decode cX12_hasAll 71 = .ok (.iload 4, 2) := by decide +kernel
theorem dX12_hasAll_73 : decode cX12_hasAll 73 = .ok (.iand, 1) := by decide +kernel
theorem dX12_hasAll_74 : decode cX12_hasAll 74 = .ok (.istore_n 2, 1) := by decide +kernel
theorem dX12_hasAll_75 : decode cX12_hasAll 75 = .ok (.iinc 3 1, 3) := by decide +kernel
theorem dX12_hasAll_78 : decode cX12_hasAll 78 = .ok (.goto (-71), 3) := by decide +kernel
theorem dX12_hasAll_81 : decode cX12_hasAll 81 = .ok (.iload_n 2, 1) := by decide +kernel
theorem dX12_hasAll_82 : decode cX12_hasAll 82 = .ok (.ireturn, 1) := by decide +kernel
theorem dX12_isStale_0 : decode cX12_isStale 0 = .ok (.aload_n 0, 1) := by decide +kernel
theorem dX12_isStale_1 : decode cX12_isStale 1 = .ok (.aload_n 0, 1) := by decide +kernel
theorem dX12_isStale_2 : decode cX12_isStale 2 = .ok (.iload_n 1, 1) := by decide +kernel
theorem dX12_isStale_3 : decode cX12_isStale 3 = .ok (.invokevirtual 386, 3) := by decide +kernel
theorem dX12_isStale_6 : decode cX12_isStale 6 = .ok (.ifCond .eq 7, 3) := by decide +kernel
theorem dX12_isStale_9 : decode cX12_isStale 9 = .ok (.iconst 0, 1) := by decide +kernel
theorem dX12_isStale_10 : decode cX12_isStale 10 = .ok (.goto 4, 3) := by decide +kernel
theorem dX12_isStale_13 : decode cX12_isStale 13 = .ok (.iconst 1, 1) := by decide +kernel
theorem dX12_isStale_14 : decode cX12_isStale 14 = .ok (.putfield 166, 3) := by decide +kernel
theorem dX12_isStale_17 : decode cX12_isStale 17 = .ok (.aload_n 0, 1) := by decide +kernel
theorem dX12_isStale_18 : decode cX12_isStale 18 = .ok (.getfield 166, 3) := by decide +kernel
theorem dX12_isStale_21 : decode cX12_isStale 21 = .ok (.ifCond .ne 28, 3) := by decide +kernel
theorem dX12_isStale_24 : decode cX12_isStale 24 = .ok (.aload_n 0, 1) := by decide +kernel
theorem dX12_isStale_25 : decode cX12_isStale 25 = .ok (.getfield 104, 3) := by decide +kernel
theorem dX12_isStale_28 : decode cX12_isStale 28 = .ok (.iload_n 1, 1) := by decide +kernel
theorem dX12_isStale_29 : decode cX12_isStale 29 = .ok (.iaload, 1) := by decide +kernel
theorem dX12_isStale_30 : decode cX12_isStale 30 = .ok (.aload_n 0, 1) := by decide +kernel
theorem dX12_isStale_31 : decode cX12_isStale 31 = .ok (.getfield 343, 3) := by decide +kernel
theorem dX12_isStale_34 : decode cX12_isStale 34 = .ok (.if_icmp .ne 11, 3) := by decide +kernel
theorem dX12_isStale_37 : decode cX12_isStale 37 = .ok (.aload_n 0, 1) := by decide +kernel
theorem dX12_isStale_38 : decode cX12_isStale 38 = .ok (.iload_n 1, 1) := by decide +kernel
theorem dX12_isStale_39 : decode cX12_isStale 39 = .ok (.invokevirtual 389, 3) := by decide +kernel
theorem dX12_isStale_42 : decode cX12_isStale 42 = .ok (.ifCond .ne 7, 3) := by decide +kernel
theorem dX12_isStale_45 : decode cX12_isStale 45 = .ok (.iconst 1, 1) := by decide +kernel
theorem dX12_isStale_46 : decode cX12_isStale 46 = .ok (.goto 4, 3) := by decide +kernel
theorem dX12_isStale_49 : decode cX12_isStale 49 = .ok (.iconst 0, 1) := by decide +kernel
theorem dX12_isStale_50 : decode cX12_isStale 50 = .ok (.ireturn, 1) := by decide +kernel
theorem dX12_rebase_0 : decode cX12_rebase 0 = .ok (.aload_n 0, 1) := by decide +kernel
theorem dX12_rebase_1 : decode cX12_rebase 1 = .ok (.aload_n 0, 1) := by decide +kernel
theorem dX12_rebase_2 : decode cX12_rebase 2 = .ok (.iload_n 1, 1) := by decide +kernel
theorem dX12_rebase_3 : decode cX12_rebase 3 = .ok (.invokevirtual 386, 3) := by decide +kernel
theorem dX12_rebase_6 : decode cX12_rebase 6 = .ok (.ifCond .ne 7, 3) := by decide +kernel
theorem dX12_rebase_9 : decode cX12_rebase 9 = .ok (.iconst 1, 1) := by decide +kernel
theorem dX12_rebase_10 : decode cX12_rebase 10 = .ok (.goto 17, 3) := by decide +kernel
theorem dX12_rebase_13 : decode cX12_rebase 13 = .ok (.aload_n 0, 1) := by decide +kernel
theorem dX12_rebase_14 : decode cX12_rebase 14 = .ok (.getfield 110, 3) := by decide +kernel
theorem dX12_rebase_17 : decode cX12_rebase 17 = .ok (.iload_n 1, 1) := by decide +kernel
theorem dX12_rebase_18 : decode cX12_rebase 18 = .ok (.baload, 1) := by decide +kernel
theorem dX12_rebase_19 : decode cX12_rebase 19 = .ok (.ifCond .eq 7, 3) := by decide +kernel
theorem dX12_rebase_22 : decode cX12_rebase 22 = .ok (.iconst 2, 1) := by decide +kernel
theorem dX12_rebase_23 : decode cX12_rebase 23 = .ok (.goto 4, 3) := by decide +kernel
theorem dX12_rebase_26 : decode cX12_rebase 26 = .ok (.iconst 0, 1) := by decide +kernel
theorem dX12_rebase_27 : decode cX12_rebase 27 = .ok (.putfield 166, 3) := by decide +kernel
theorem dX12_rebase_30 : decode cX12_rebase 30 = .ok (.aload_n 0, 1) := by decide +kernel
theorem dX12_rebase_31 : decode cX12_rebase 31 = .ok (.getfield 166, 3) := by decide +kernel
theorem dX12_rebase_34 : decode cX12_rebase 34 = .ok (.ifCond .le 5, 3) := by decide +kernel
theorem dX12_rebase_37 : decode cX12_rebase 37 = .ok (.iconst 0, 1) := by decide +kernel
theorem dX12_rebase_38 : decode cX12_rebase 38 = .ok (.ireturn, 1) := by decide +kernel
theorem dX12_rebase_39 : decode cX12_rebase 39 = .ok (.aload_n 0, 1) := by decide +kernel
theorem dX12_rebase_40 : decode cX12_rebase 40 = .ok (.iload_n 1, 1) := by decide +kernel
theorem dX12_rebase_41 : decode cX12_rebase 41 = .ok (.invokevirtual 389, 3) := by decide +kernel
theorem dX12_rebase_44 : decode cX12_rebase 44 = .ok (.istore_n 2, 1) := by decide +kernel
theorem dX12_rebase_45 : decode cX12_rebase 45 = .ok (.aload_n 0, 1) := by decide +kernel
theorem dX12_rebase_46 : decode cX12_rebase 46 = .ok (.getfield 104, 3) := by decide +kernel
theorem dX12_rebase_49 : decode cX12_rebase 49 = .ok (.iload_n 1, 1) := by decide +kernel
theorem dX12_rebase_50 : decode cX12_rebase 50 = .ok (.iload_n 2, 1) := by decide +kernel
theorem dX12_rebase_51 : decode cX12_rebase 51 = .ok (.ifCond .eq 10, 3) := by decide +kernel
theorem dX12_rebase_54 : decode cX12_rebase 54 = .ok (.aload_n 0, 1) := by decide +kernel
theorem dX12_rebase_55 : decode cX12_rebase 55 = .ok (.getfield 343, 3) := by decide +kernel
theorem dX12_rebase_58 : decode cX12_rebase 58 = .ok (.goto 9, 3) := by decide +kernel
theorem dX12_rebase_61 : decode cX12_rebase 61 = .ok (.aload_n 0, 1) := by decide +kernel
theorem dX12_rebase_62 : decode cX12_rebase 62 = .ok (.getfield 104, 3) := by decide +kernel
theorem dX12_rebase_65 : decode cX12_rebase 65 = .ok (.iload_n 1, 1) := by decide +kernel
theorem dX12_rebase_66 : decode cX12_rebase 66 = .ok (.iaload, 1) := by decide +kernel
theorem dX12_rebase_67 : decode cX12_rebase 67 = .ok (.iastore, 1) := by decide +kernel
theorem dX12_rebase_68 : decode cX12_rebase 68 = .ok (.iload_n 2, 1) := by decide +kernel
theorem dX12_rebase_69 : decode cX12_rebase 69 = .ok (.ireturn, 1) := by decide +kernel
theorem dX12_ends_0 : decode cX12_ends 0 = .ok (.aload_n 0, 1) := by decide +kernel
theorem dX12_ends_1 : decode cX12_ends 1 = .ok (.iconst (-1), 1) := by decide +kernel
theorem dX12_ends_2 : decode cX12_ends 2 = .ok (.putfield 119, 3) := by decide +kernel
theorem dX12_ends_5 : decode cX12_ends 5 = .ok (.aload_n 0, 1) := by decide +kernel
theorem dX12_ends_6 : decode cX12_ends 6 = .ok (.iconst (-1), 1) := by decide +kernel
theorem dX12_ends_7 : decode cX12_ends 7 = .ok (.putfield 123, 3) := by decide +kernel
theorem dX12_ends_10 : decode cX12_ends 10 = .ok (.return_, 1) := by decide +kernel
theorem dX12_apply_0 : decode cX12_apply 0 = .ok (.aload_n 0, 1) := by decide +kernel
theorem dX12_apply_1 : decode cX12_apply 1 = .ok (.aload_n 0, 1) := by decide +kernel
theorem dX12_apply_2 : decode cX12_apply 2 = .ok (.iload_n 1, 1) := by decide +kernel
theorem dX12_apply_3 : decode cX12_apply 3 = .ok (.invokevirtual 386, 3) := by decide +kernel
theorem dX12_apply_6 : decode cX12_apply 6 = .ok (.ifCond .eq 7, 3) := by decide +kernel
theorem dX12_apply_9 : decode cX12_apply 9 = .ok (.iconst 0, 1) := by decide +kernel
theorem dX12_apply_10 : decode cX12_apply 10 = .ok (.goto 4, 3) := by decide +kernel
theorem dX12_apply_13 : decode cX12_apply 13 = .ok (.iconst 1, 1) := by decide +kernel
theorem dX12_apply_14 : decode cX12_apply 14 = .ok (.putfield 166, 3) := by decide +kernel
theorem dX12_apply_17 : decode cX12_apply 17 = .ok (.aload_n 0, 1) := by decide +kernel
theorem dX12_apply_18 : decode cX12_apply 18 = .ok (.getfield 166, 3) := by decide +kernel
theorem dX12_apply_21 : decode cX12_apply 21 = .ok (.ifCond .le 5, 3) := by decide +kernel
theorem dX12_apply_24 : decode cX12_apply 24 = .ok (.iconst 0, 1) := by decide +kernel
theorem dX12_apply_25 : decode cX12_apply 25 = .ok (.ireturn, 1) := by decide +kernel
theorem dX12_apply_26 : decode cX12_apply 26 = .ok (.aload_n 0, 1) := by decide +kernel
theorem dX12_apply_27 : decode cX12_apply 27 = .ok (.getfield 107, 3) := by decide +kernel
theorem dX12_apply_30 : decode cX12_apply 30 = .ok (.iload_n 1, 1) := by decide +kernel
theorem dX12_apply_31 : decode cX12_apply 31 = .ok (.baload, 1) := by decide +kernel
theorem dX12_apply_32 : decode cX12_apply 32 = .ok (.ifCond .eq 45, 3) := by decide +kernel
theorem dX12_apply_35 : decode cX12_apply 35 = .ok (.aload_n 0, 1) := by decide +kernel
theorem dX12_apply_36 : decode cX12_apply 36 = .ok (.getfield 110, 3) := by decide +kernel
theorem dX12_apply_39 : decode cX12_apply 39 = .ok (.iload_n 1, 1) := by decide +kernel
theorem dX12_apply_40 : decode cX12_apply 40 = .ok (.baload, 1) := by decide +kernel
theorem dX12_apply_41 : decode cX12_apply 41 = .ok (.ifCond .ne 36, 3) := by decide +kernel
theorem dX12_apply_44 : decode cX12_apply 44 = .ok (.aload_n 0, 1) := by decide +kernel
theorem dX12_apply_45 : decode cX12_apply 45 = .ok (.getfield 104, 3) := by decide +kernel
theorem dX12_apply_48 : decode cX12_apply 48 = .ok (.iload_n 1, 1) := by decide +kernel
theorem dX12_apply_49 : decode cX12_apply 49 = .ok (.iaload, 1) := by decide +kernel
theorem dX12_apply_50 : decode cX12_apply 50 = .ok (.aload_n 0, 1) := by decide +kernel
theorem dX12_apply_51 : decode cX12_apply 51 = .ok (.getfield 343, 3) := by decide +kernel
theorem dX12_apply_54 : decode cX12_apply 54 = .ok (.if_icmp .ne 23, 3) := by decide +kernel
theorem dX12_apply_57 : decode cX12_apply 57 = .ok (.aload_n 0, 1) := by decide +kernel
theorem dX12_apply_58 : decode cX12_apply 58 = .ok (.getfield 113, 3) := by decide +kernel
theorem dX12_apply_61 : decode cX12_apply 61 = .ok (.iload_n 1, 1) := by decide +kernel
theorem dX12_apply_62 : decode cX12_apply 62 = .ok (.iaload, 1) := by decide +kernel
theorem dX12_apply_63 : decode cX12_apply 63 = .ok (.ifCond .le 14, 3) := by decide +kernel
theorem dX12_apply_66 : decode cX12_apply 66 = .ok (.aload_n 0, 1) := by decide +kernel
theorem dX12_apply_67 : decode cX12_apply 67 = .ok (.getfield 123, 3) := by decide +kernel
theorem dX12_apply_70 : decode cX12_apply 70 = .ok (.ifCond .ge 7, 3) := by decide +kernel
theorem dX12_apply_73 : decode cX12_apply 73 = .ok (.iconst 1, 1) := by decide +kernel
theorem dX12_apply_74 : decode cX12_apply 74 = .ok (.goto 4, 3) := by decide +kernel
theorem dX12_apply_77 : decode cX12_apply 77 = .ok (.iconst 0, 1) := by decide +kernel
theorem dX12_apply_78 : decode cX12_apply 78 = .ok (.istore_n 2, 1) := by decide +kernel
theorem dX12_apply_79 : decode cX12_apply 79 = .ok (.aload_n 0, 1) := by decide +kernel
theorem dX12_apply_80 : decode cX12_apply 80 = .ok (.iload_n 2, 1) := by decide +kernel
theorem dX12_apply_81 : decode cX12_apply 81 = .ok (.ifCond .eq 15, 3) := by decide +kernel
theorem dX12_apply_84 : decode cX12_apply 84 = .ok (.aload_n 0, 1) := by decide +kernel
theorem dX12_apply_85 : decode cX12_apply 85 = .ok (.iload_n 1, 1) := by decide +kernel
theorem dX12_apply_86 : decode cX12_apply 86 = .ok (.invokevirtual 389, 3) := by decide +kernel
theorem dX12_apply_89 : decode cX12_apply 89 = .ok (.ifCond .eq 7, 3) := by decide +kernel
theorem dX12_apply_92 : decode cX12_apply 92 = .ok (.iconst 0, 1) := by decide +kernel
theorem dX12_apply_93 : decode cX12_apply 93 = .ok (.goto 4, 3) := by decide +kernel
theorem dX12_apply_96 : decode cX12_apply 96 = .ok (.iconst 2, 1) := by decide +kernel
theorem dX12_apply_97 : decode cX12_apply 97 = .ok (.putfield 166, 3) := by decide +kernel
theorem dX12_apply_100 : decode cX12_apply 100 = .ok (.aload_n 0, 1) := by decide +kernel
theorem dX12_apply_101 : decode cX12_apply 101 = .ok (.getfield 166, 3) := by decide +kernel
theorem dX12_apply_104 : decode cX12_apply 104 = .ok (.ifCond .le 5, 3) := by decide +kernel
theorem dX12_apply_107 : decode cX12_apply 107 = .ok (.iconst 0, 1) := by decide +kernel
theorem dX12_apply_108 : decode cX12_apply 108 = .ok (.ireturn, 1) := by decide +kernel
theorem dX12_apply_109 : decode cX12_apply 109 = .ok (.aload_n 0, 1) := by decide +kernel
theorem dX12_apply_110 : decode cX12_apply 110 = .ok (.getfield 110, 3) := by decide +kernel
theorem dX12_apply_113 : decode cX12_apply 113 = .ok (.iload_n 1, 1) := by decide +kernel
theorem dX12_apply_114 : decode cX12_apply 114 = .ok (.iconst 1, 1) := by decide +kernel
theorem dX12_apply_115 : decode cX12_apply 115 = .ok (.bastore, 1) := by decide +kernel
theorem dX12_apply_116 : decode cX12_apply 116 = .ok (.aload_n 0, 1) := by decide +kernel
theorem dX12_apply_117 : decode cX12_apply 117 = .ok (.iload_n 1, 1) := by decide +kernel
theorem dX12_apply_118 : decode cX12_apply 118 = .ok (.putfield 119, 3) := by decide +kernel
theorem dX12_apply_121 : decode cX12_apply 121 = .ok (.aload_n 0, 1) := by decide +kernel
theorem dX12_apply_122 : decode cX12_apply 122 = .ok (.iconst 0, 1) := by decide +kernel
theorem dX12_apply_123 : decode cX12_apply 123 = .ok (.putfield 392, 3) := by decide +kernel
theorem dX12_apply_126 : decode cX12_apply 126 = .ok (.aload_n 0, 1) := by decide +kernel
theorem dX12_apply_127 : decode cX12_apply 127 = .ok (.aload_n 0, 1) := by decide +kernel
theorem dX12_apply_128 : decode cX12_apply 128 = .ok (.getfield 193, 3) := by decide +kernel
theorem dX12_apply_131 : decode cX12_apply 131 = .ok (.iconst 3, 1) := by decide +kernel
theorem dX12_apply_132 : decode cX12_apply 132 = .ok (.iadd, 1) := by decide +kernel
theorem dX12_apply_133 : decode cX12_apply 133 = .ok (.putfield 123, 3) := by decide +kernel
theorem dX12_apply_136 : decode cX12_apply 136 = .ok (.iconst 0, 1) := by decide +kernel
theorem dX12_apply_137 : decode cX12_apply 137 = .ok (.istore_n 3, 1) := by decide +kernel
theorem dX12_apply_138 : decode cX12_apply 138 = .ok (.iload_n 3, 1) := by decide +kernel
theorem dX12_apply_139 : decode cX12_apply 139 = .ok (.bipush 64, 2) := by decide +kernel
theorem dX12_apply_141 : decode cX12_apply 141 = .ok (.if_icmp .ge 23, 3) := by decide +kernel
theorem dX12_apply_144 : decode cX12_apply 144 = .ok (.aload_n 0, 1) := by decide +kernel
theorem dX12_apply_145 : decode cX12_apply 145 = .ok (.getfield 126, 3) := by decide +kernel
theorem dX12_apply_148 : decode cX12_apply 148 = .ok (.iload_n 3, 1) := by decide +kernel
theorem dX12_apply_149 : decode cX12_apply 149 = .ok (.iconst 0, 1) := by decide +kernel
theorem dX12_apply_150 : decode cX12_apply 150 = .ok (.bastore, 1) := by decide +kernel
theorem dX12_apply_151 : decode cX12_apply 151 = .ok (.aload_n 0, 1) := by decide +kernel
theorem dX12_apply_152 : decode cX12_apply 152 = .ok (.getfield 129, 3) := by decide +kernel
theorem dX12_apply_155 : decode cX12_apply 155 = .ok (.iload_n 3, 1) := by decide +kernel
theorem dX12_apply_156 : decode cX12_apply 156 = .ok (.iconst 0, 1) := by decide +kernel
theorem dX12_apply_157 : decode cX12_apply 157 = .ok (.iastore, 1) := by decide +kernel
theorem dX12_apply_158 : decode cX12_apply 158 = .ok (.iinc 3 1, 3) := by decide +kernel
theorem dX12_apply_161 : decode cX12_apply 161 = .ok (.goto (-23), 3) := by decide +kernel
theorem dX12_apply_164 : decode cX12_apply 164 = .ok (.aload_n 0, 1) := by decide +kernel
theorem dX12_apply_165 : decode cX12_apply 165 = .ok (.getfield 113, 3) := by decide +kernel
theorem dX12_apply_168 : decode cX12_apply 168 = .ok (.iload_n 1, 1) := by decide +kernel
theorem dX12_apply_169 : decode cX12_apply 169 = .ok (.iaload, 1) := by decide +kernel
theorem dX12_apply_170 : decode cX12_apply 170 = .ok (.ireturn, 1) := by decide +kernel
theorem dX12_isLeftOut_0 : decode cX12_isLeftOut 0 = .ok (.aload_n 0, 1) := by decide +kernel
theorem dX12_isLeftOut_1 : decode cX12_isLeftOut 1 = .ok (.getfield 126, 3) := by decide +kernel
theorem dX12_isLeftOut_4 : decode cX12_isLeftOut 4 = .ok (.iload_n 1, 1) := by decide +kernel
theorem dX12_isLeftOut_5 : decode cX12_isLeftOut 5 = .ok (.baload, 1) := by decide +kernel
theorem dX12_isLeftOut_6 : decode cX12_isLeftOut 6 = .ok (.istore_n 2, 1) := by decide +kernel
theorem dX12_isLeftOut_7 : decode cX12_isLeftOut 7 = .ok (.iconst 0, 1) := by decide +kernel
theorem dX12_isLeftOut_8 : decode cX12_isLeftOut 8 = .ok (.istore_n 3, 1) := by decide +kernel
theorem dX12_isLeftOut_9 : decode cX12_isLeftOut 9 = .ok (.iload_n 3, 1) := by decide +kernel
theorem dX12_isLeftOut_10 : decode cX12_isLeftOut 10 = .ok (.iconst 3, 1) := by decide +kernel
theorem dX12_isLeftOut_11 : decode cX12_isLeftOut 11 = .ok (.if_icmp .ge 60, 3) := by decide +kernel
theorem dX12_isLeftOut_14 : decode cX12_isLeftOut 14 = .ok (.aload_n 0, 1) := by decide +kernel
theorem dX12_isLeftOut_15 : decode cX12_isLeftOut 15 = .ok (.getfield 71, 3) := by decide +kernel
theorem dX12_isLeftOut_18 : decode cX12_isLeftOut 18 = .ok (.iconst 3, 1) := by decide +kernel
theorem dX12_isLeftOut_19 : decode cX12_isLeftOut 19 = .ok (.iload_n 1, 1) := by decide +kernel
theorem dX12_isLeftOut_20 : decode cX12_isLeftOut 20 = .ok (.bipush 16, 2) := by decide +kernel
theorem dX12_isLeftOut_22 : decode cX12_isLeftOut 22 = .ok (.idiv, 1) := by decide +kernel
theorem dX12_isLeftOut_23 : decode cX12_isLeftOut 23 = .ok (.imul, 1) := by decide +kernel
theorem dX12_isLeftOut_24 : decode cX12_isLeftOut 24 = .ok (.iload_n 3, 1) := by decide +kernel
theorem dX12_isLeftOut_25 : decode cX12_isLeftOut 25 = .ok (.iadd, 1) := by decide +kernel
theorem dX12_isLeftOut_26 : decode cX12_isLeftOut 26 = .ok (.iaload, 1) := by decide +kernel
theorem dX12_isLeftOut_27 : decode cX12_isLeftOut 27 = .ok (.istore 4, 2) := by decide +kernel
theorem dX12_isLeftOut_29 : decode cX12_isLeftOut 29 = .ok (.iload_n 2, 1) := by decide +kernel
theorem dX12_isLeftOut_30 : decode cX12_isLeftOut 30 = .ok (.iload 4, 2) := by decide +kernel
theorem dX12_isLeftOut_32 : decode cX12_isLeftOut 32 = .ok (.bipush 10, 2) := by decide +kernel
theorem dX12_isLeftOut_34 : decode cX12_isLeftOut 34 = .ok (.if_icmp .lt 28, 3) := by decide +kernel
theorem dX12_isLeftOut_37 : decode cX12_isLeftOut 37 = .ok (.aload_n 0, 1) := by decide +kernel
theorem dX12_isLeftOut_38 : decode cX12_isLeftOut 38 = .ok (.getfield 126, 3) := by decide +kernel
theorem dX12_isLeftOut_41 : decode cX12_isLeftOut 41 = .ok (.bipush 16, 2) := by decide +kernel
theorem dX12_isLeftOut_43 : decode cX12_isLeftOut 43 = .ok (.iload 4, 2) := by decide +kernel
theorem dX12_isLeftOut_45 : decode cX12_isLeftOut 45 = .ok (.invokestatic 333, 3) := by decide +kernel
theorem dX12_isLeftOut_48 : decode cX12_isLeftOut 48 = .ok (.imul, 1) := by decide +kernel
theorem dX12_isLeftOut_49 : decode cX12_isLeftOut 49 = .ok (.iload_n 1, 1) := by decide +kernel
theorem dX12_isLeftOut_50 : decode cX12_isLeftOut 50 = .ok (.bipush 16, 2) := by decide +kernel
theorem dX12_isLeftOut_52 : decode cX12_isLeftOut 52 = .ok (.irem, 1) := by decide +kernel
theorem dX12_isLeftOut_53 : decode cX12_isLeftOut 53 = .ok (.iadd, 1) := by decide +kernel
theorem dX12_isLeftOut_54 : decode cX12_isLeftOut 54 = .ok (.baload, 1) := by decide +kernel
theorem dX12_isLeftOut_55 : decode cX12_isLeftOut 55 = .ok (.ifCond .eq 7, 3) := by decide +kernel
theorem dX12_isLeftOut_58 : decode cX12_isLeftOut 58 = .ok (.iconst 1, 1) := by decide +kernel
theorem dX12_isLeftOut_59 : decode cX12_isLeftOut 59 = .ok (.goto 4, 3) := by decide +kernel
theorem dX12_isLeftOut_62 : decode cX12_isLeftOut 62 = .ok (.iconst 0, 1) := by decide +kernel
theorem dX12_isLeftOut_63 : decode cX12_isLeftOut 63 = .ok (.ior, 1) := by decide +kernel
theorem dX12_isLeftOut_64 : decode cX12_isLeftOut 64 = .ok (.istore_n 2, 1) := by decide +kernel
theorem dX12_isLeftOut_65 : decode cX12_isLeftOut 65 = .ok (.iinc 3 1, 3) := by decide +kernel
theorem dX12_isLeftOut_68 : decode cX12_isLeftOut 68 = .ok (.goto (-59), 3) := by decide +kernel
theorem dX12_isLeftOut_71 : decode cX12_isLeftOut 71 = .ok (.iload_n 2, 1) := by decide +kernel
theorem dX12_isLeftOut_72 : decode cX12_isLeftOut 72 = .ok (.ireturn, 1) := by decide +kernel
theorem dX12_passes_0 : decode cX12_passes 0 = .ok (.iconst 1, 1) := by decide +kernel
theorem dX12_passes_1 : decode cX12_passes 1 = .ok (.istore_n 1, 1) := by decide +kernel
theorem dX12_passes_2 : decode cX12_passes 2 = .ok (.iload_n 1, 1) := by decide +kernel
theorem dX12_passes_3 : decode cX12_passes 3 = .ok (.ifCond .eq 71, 3) := by decide +kernel
theorem dX12_passes_6 : decode cX12_passes 6 = .ok (.aload_n 0, 1) := by decide +kernel
theorem dX12_passes_7 : decode cX12_passes 7 = .ok (.getfield 392, 3) := by decide +kernel
theorem dX12_passes_10 : decode cX12_passes 10 = .ok (.aload_n 0, 1) := by decide +kernel
theorem dX12_passes_11 : decode cX12_passes 11 = .ok (.getfield 113, 3) := by decide +kernel
theorem dX12_passes_14 : decode cX12_passes 14 = .ok (.aload_n 0, 1) := by decide +kernel
theorem dX12_passes_15 : decode cX12_passes 15 = .ok (.getfield 119, 3) := by decide +kernel
theorem dX12_passes_18 : decode cX12_passes 18 = .ok (.iaload, 1) := by decide +kernel
theorem dX12_passes_19 : decode cX12_passes 19 = .ok (.if_icmp .ge 55, 3) := by decide +kernel
theorem dX12_passes_22 : decode cX12_passes 22 = .ok (.aload_n 0, 1) := by decide +kernel
theorem dX12_passes_23 : decode cX12_passes 23 = .ok (.getfield 116, 3) := by decide +kernel
theorem dX12_passes_26 : decode cX12_passes 26 = .ok (.sipush 128, 3) := by decide +kernel
theorem dX12_passes_29 : decode cX12_passes 29 = .ok (.aload_n 0, 1) := by decide +kernel
theorem dX12_passes_30 : decode cX12_passes 30 = .ok (.getfield 119, 3) := by decide +kernel
theorem dX12_passes_33 : decode cX12_passes 33 = .ok (.imul, 1) := by decide +kernel
theorem dX12_passes_34 : decode cX12_passes 34 = .ok (.aload_n 0, 1) := by decide +kernel
theorem dX12_passes_35 : decode cX12_passes 35 = .ok (.getfield 392, 3) := by decide +kernel
theorem dX12_passes_38 : decode cX12_passes 38 = .ok (.iadd, 1) := by decide +kernel
theorem dX12_passes_39 : decode cX12_passes 39 = .ok (.iaload, 1) := by decide +kernel
theorem dX12_passes_40 : decode cX12_passes 40 = .ok (.bipush 100, 2) := by decide +kernel
theorem dX12_passes_42 : decode cX12_passes 42 = .ok (.irem, 1) := by decide +kernel
theorem dX12_passes_43 : decode cX12_passes 43 = .ok (.istore_n 2, 1) := by decide +kernel
theorem dX12_passes_44 : decode cX12_passes 44 = .ok (.aload_n 0, 1) := by decide +kernel
theorem dX12_passes_45 : decode cX12_passes 45 = .ok (.iload_n 2, 1) := by decide +kernel
theorem dX12_passes_46 : decode cX12_passes 46 = .ok (.invokevirtual 395, 3) := by decide +kernel
theorem dX12_passes_49 : decode cX12_passes 49 = .ok (.istore_n 1, 1) := by decide +kernel
theorem dX12_passes_50 : decode cX12_passes 50 = .ok (.iload_n 1, 1) := by decide +kernel
theorem dX12_passes_51 : decode cX12_passes 51 = .ok (.ifCond .eq 20, 3) := by decide +kernel
theorem dX12_passes_54 : decode cX12_passes 54 = .ok (.aload_n 0, 1) := by decide +kernel
theorem dX12_passes_55 : decode cX12_passes 55 = .ok (.getfield 126, 3) := by decide +kernel
theorem dX12_passes_58 : decode cX12_passes 58 = .ok (.iload_n 2, 1) := by decide +kernel
theorem dX12_passes_59 : decode cX12_passes 59 = .ok (.iconst 1, 1) := by decide +kernel
theorem dX12_passes_60 : decode cX12_passes 60 = .ok (.bastore, 1) := by decide +kernel
theorem dX12_passes_61 : decode cX12_passes 61 = .ok (.aload_n 0, 1) := by decide +kernel
theorem dX12_passes_62 : decode cX12_passes 62 = .ok (.dup, 1) := by decide +kernel
theorem dX12_passes_63 : decode cX12_passes 63 = .ok (.getfield 392, 3) := by decide +kernel
theorem dX12_passes_66 : decode cX12_passes 66 = .ok (.iconst 1, 1) := by decide +kernel
theorem dX12_passes_67 : decode cX12_passes 67 = .ok (.iadd, 1) := by decide +kernel
theorem dX12_passes_68 : decode cX12_passes 68 = .ok (.putfield 392, 3) := by decide +kernel
theorem dX12_passes_71 : decode cX12_passes 71 = .ok (.goto (-69), 3) := by decide +kernel
theorem dX12_passes_74 : decode cX12_passes 74 = .ok (.aload_n 0, 1) := by decide +kernel
theorem dX12_passes_75 : decode cX12_passes 75 = .ok (.getfield 392, 3) := by decide +kernel
theorem dX12_passes_78 : decode cX12_passes 78 = .ok (.aload_n 0, 1) := by decide +kernel
theorem dX12_passes_79 : decode cX12_passes 79 = .ok (.getfield 113, 3) := by decide +kernel
theorem dX12_passes_82 : decode cX12_passes 82 = .ok (.aload_n 0, 1) := by decide +kernel
theorem dX12_passes_83 : decode cX12_passes 83 = .ok (.getfield 119, 3) := by decide +kernel
theorem dX12_passes_86 : decode cX12_passes 86 = .ok (.iaload, 1) := by decide +kernel
theorem dX12_passes_87 : decode cX12_passes 87 = .ok (.if_icmp .ne 7, 3) := by decide +kernel
theorem dX12_passes_90 : decode cX12_passes 90 = .ok (.aload_n 0, 1) := by decide +kernel
theorem dX12_passes_91 : decode cX12_passes 91 = .ok (.invokevirtual 196, 3) := by decide +kernel
theorem dX12_passes_94 : decode cX12_passes 94 = .ok (.return_, 1) := by decide +kernel
theorem dX12_canGive_0 : decode cX12_canGive 0 = .ok (.iconst 1, 1) := by decide +kernel
theorem dX12_canGive_1 : decode cX12_canGive 1 = .ok (.istore_n 3, 1) := by decide +kernel
theorem dX12_canGive_2 : decode cX12_canGive 2 = .ok (.iconst 0, 1) := by decide +kernel
theorem dX12_canGive_3 : decode cX12_canGive 3 = .ok (.istore 4, 2) := by decide +kernel
theorem dX12_canGive_5 : decode cX12_canGive 5 = .ok (.iload 4, 2) := by decide +kernel
theorem dX12_canGive_7 : decode cX12_canGive 7 = .ok (.iconst 3, 1) := by decide +kernel
theorem dX12_canGive_8 : decode cX12_canGive 8 = .ok (.if_icmp .ge 72, 3) := by decide +kernel
theorem dX12_canGive_11 : decode cX12_canGive 11 = .ok (.iload_n 2, 1) := by decide +kernel
theorem dX12_canGive_12 : decode cX12_canGive 12 = .ok (.ifCond .eq 30, 3) := by decide +kernel
theorem dX12_canGive_15 : decode cX12_canGive 15 = .ok (.aload_n 0, 1) := by decide +kernel
theorem dX12_canGive_16 : decode cX12_canGive 16 = .ok (.aload_n 0, 1) := by decide +kernel
theorem dX12_canGive_17 : decode cX12_canGive 17 = .ok (.getfield 62, 3) := by decide +kernel
theorem dX12_canGive_20 : decode cX12_canGive 20 = .ok (.iload_n 1, 1) := by decide +kernel
theorem dX12_canGive_21 : decode cX12_canGive 21 = .ok (.bipush 16, 2) := by decide +kernel
theorem dX12_canGive_23 : decode cX12_canGive 23 = .ok (.idiv, 1) := by decide +kernel
theorem dX12_canGive_24 : decode cX12_canGive 24 = .ok (.iaload, 1) := by decide +kernel
theorem dX12_canGive_25 : decode cX12_canGive 25 = .ok (.iload 4, 2) := by decide +kernel
theorem dX12_canGive_27 : decode cX12_canGive 27 = .ok (.iconst 2, 1) := by decide +kernel
theorem dX12_canGive_28 : decode cX12_canGive 28 = .ok (.invokevirtual 330, 3) := by decide +kernel
theorem dX12_canGive_31 : decode cX12_canGive 31 = .ok (.ifCond .ne 7, 3) := by decide +kernel
theorem dX12_canGive_34 : decode cX12_canGive 34 = .ok (.iconst 1, 1) := by decide +kernel
theorem dX12_canGive_35 : decode cX12_canGive 35 = .ok (.goto 14, 3) := by decide +kernel
theorem dX12_canGive_38 : decode cX12_canGive 38 = .ok (.iconst 0, 1) := by decide +kernel
theorem dX12_canGive_39 : decode cX12_canGive 39 = .ok (.goto 10, 3) := by decide +kernel
theorem dX12_canGive_42 : decode cX12_canGive 42 = .ok (.aload_n 0, 1) := by decide +kernel
theorem dX12_canGive_43 : decode cX12_canGive 43 = .ok (.iload_n 1, 1) := by decide +kernel
theorem dX12_canGive_44 : decode cX12_canGive 44 = .ok (.iload 4, 2) := by decide +kernel
theorem dX12_canGive_46 : decode cX12_canGive 46 = .ok (.invokevirtual 352, 3) := by decide +kernel
theorem dX12_canGive_49 : decode cX12_canGive 49 = .ok (.istore 5, 2) := by decide +kernel
theorem dX12_canGive_51 : decode cX12_canGive 51 = .ok (.iload_n 3, 1) := by decide +kernel
theorem dX12_canGive_52 : decode cX12_canGive 52 = .ok (.iload 5, 2) := by decide +kernel
theorem dX12_canGive_54 : decode cX12_canGive 54 = .ok (.ifCond .eq 13, 3) := by decide +kernel
theorem dX12_canGive_57 : decode cX12_canGive 57 = .ok (.aload_n 0, 1) := by decide +kernel
theorem dX12_canGive_58 : decode cX12_canGive 58 = .ok (.iload_n 1, 1) := by decide +kernel
theorem dX12_canGive_59 : decode cX12_canGive 59 = .ok (.iload 4, 2) := by decide +kernel
theorem dX12_canGive_61 : decode cX12_canGive 61 = .ok (.invokevirtual 346, 3) := by decide +kernel
theorem dX12_canGive_64 : decode cX12_canGive 64 = .ok (.ifCond .lt 7, 3) := by decide +kernel
theorem dX12_canGive_67 : decode cX12_canGive 67 = .ok (.iconst 1, 1) := by decide +kernel
theorem dX12_canGive_68 : decode cX12_canGive 68 = .ok (.goto 4, 3) := by decide +kernel
theorem dX12_canGive_71 : decode cX12_canGive 71 = .ok (.iconst 0, 1) := by decide +kernel
theorem dX12_canGive_72 : decode cX12_canGive 72 = .ok (.iand, 1) := by decide +kernel
theorem dX12_canGive_73 : decode cX12_canGive 73 = .ok (.istore_n 3, 1) := by decide +kernel
theorem dX12_canGive_74 : decode cX12_canGive 74 = .ok (.iinc 4 1, 3) := by decide +kernel
theorem dX12_canGive_77 : decode cX12_canGive 77 = .ok (.goto (-72), 3) := by decide +kernel
theorem dX12_canGive_80 : decode cX12_canGive 80 = .ok (.iload_n 3, 1) := by decide +kernel
theorem dX12_canGive_81 : decode cX12_canGive 81 = .ok (.ireturn, 1) := by decide +kernel
theorem dX12_makes_0 : decode cX12_makes 0 = .ok (.aload_n 0, 1) := by decide +kernel
theorem dX12_makes_1 : decode cX12_makes 1 = .ok (.getfield 62, 3) := by decide +kernel
theorem dX12_makes_4 : decode cX12_makes 4 = .ok (.iload_n 1, 1) := by decide +kernel
theorem dX12_makes_5 : decode cX12_makes 5 = .ok (.bipush 16, 2) := by decide +kernel
theorem dX12_makes_7 : decode cX12_makes 7 = .ok (.idiv, 1) := by decide +kernel
theorem dX12_makes_8 : decode cX12_makes 8 = .ok (.iaload, 1) := by decide +kernel
theorem dX12_makes_9 : decode cX12_makes 9 = .ok (.istore 4, 2) := by decide +kernel
theorem dX12_makes_11 : decode cX12_makes 11 = .ok (.aload_n 0, 1) := by decide +kernel
theorem dX12_makes_12 : decode cX12_makes 12 = .ok (.getfield 315, 3) := by decide +kernel
theorem dX12_makes_15 : decode cX12_makes 15 = .ok (.istore 5, 2) := by decide +kernel
theorem dX12_makes_17 : decode cX12_makes 17 = .ok (.aload_n 0, 1) := by decide +kernel
theorem dX12_makes_18 : decode cX12_makes 18 = .ok (.getfield 74, 3) := by decide +kernel
theorem dX12_makes_21 : decode cX12_makes 21 = .ok (.iload 5, 2) := by decide +kernel
theorem dX12_makes_23 : decode cX12_makes 23 = .ok (.iload 4, 2) := by decide +kernel
theorem dX12_makes_25 : decode cX12_makes 25 = .ok (.iastore, 1) := by decide +kernel
theorem dX12_makes_26 : decode cX12_makes 26 = .ok (.aload_n 0, 1) := by decide +kernel
theorem dX12_makes_27 : decode cX12_makes 27 = .ok (.getfield 80, 3) := by decide +kernel
theorem dX12_makes_30 : decode cX12_makes 30 = .ok (.iload 5, 2) := by decide +kernel
theorem dX12_makes_32 : decode cX12_makes 32 = .ok (.iconst 0, 1) := by decide +kernel
theorem dX12_makes_33 : decode cX12_makes 33 = .ok (.bastore, 1) := by decide +kernel
theorem dX12_makes_34 : decode cX12_makes 34 = .ok (.aload_n 0, 1) := by decide +kernel
theorem dX12_makes_35 : decode cX12_makes 35 = .ok (.dup, 1) := by decide +kernel
theorem dX12_makes_36 : decode cX12_makes 36 = .ok (.getfield 315, 3) := by decide +kernel
theorem dX12_makes_39 : decode cX12_makes 39 = .ok (.iconst 1, 1) := by decide +kernel
theorem dX12_makes_40 : decode cX12_makes 40 = .ok (.iadd, 1) := by decide +kernel
theorem dX12_makes_41 : decode cX12_makes 41 = .ok (.putfield 315, 3) := by decide +kernel
theorem dX12_makes_44 : decode cX12_makes 44 = .ok (.iconst 0, 1) := by decide +kernel
theorem dX12_makes_45 : decode cX12_makes 45 = .ok (.istore 6, 2) := by decide +kernel
theorem dX12_makes_47 : decode cX12_makes 47 = .ok (.iload 6, 2) := by decide +kernel
theorem dX12_makes_49 : decode cX12_makes 49 = .ok (.iconst 3, 1) := by decide +kernel
theorem dX12_makes_50 : decode cX12_makes 50 = .ok (.if_icmp .ge 65, 3) := by decide +kernel
theorem dX12_makes_53 : decode cX12_makes 53 = .ok (.aload_n 0, 1) := by decide +kernel
theorem dX12_makes_54 : decode cX12_makes 54 = .ok (.getfield 77, 3) := by decide +kernel
theorem dX12_makes_57 : decode cX12_makes 57 = .ok (.iconst 3, 1) := by decide +kernel
theorem dX12_makes_58 : decode cX12_makes 58 = .ok (.iload 5, 2) := by decide +kernel
theorem dX12_makes_60 : decode cX12_makes 60 = .ok (.imul, 1) := by decide +kernel
theorem dX12_makes_61 : decode cX12_makes 61 = .ok (.iload 6, 2) := by decide +kernel
theorem dX12_makes_63 : decode cX12_makes 63 = .ok (.iadd, 1) := by decide +kernel
theorem dX12_makes_64 : decode cX12_makes 64 = .ok (.aload_n 0, 1) := by decide +kernel
theorem dX12_makes_65 : decode cX12_makes 65 = .ok (.iload 4, 2) := by decide +kernel
theorem dX12_makes_67 : decode cX12_makes 67 = .ok (.iload 6, 2) := by decide +kernel
theorem dX12_makes_69 : decode cX12_makes 69 = .ok (.iconst 2, 1) := by decide +kernel
theorem dX12_makes_70 : decode cX12_makes 70 = .ok (.invokevirtual 330, 3) := by decide +kernel
theorem dX12_makes_73 : decode cX12_makes 73 = .ok (.ifCond .eq 28, 3) := by decide +kernel
theorem dX12_makes_76 : decode cX12_makes 76 = .ok (.iload_n 1, 1) := by decide +kernel
theorem dX12_makes_77 : decode cX12_makes 77 = .ok (.bipush 7, 2) := by decide +kernel
theorem dX12_makes_79 : decode cX12_makes 79 = .ok (.aload_n 0, 1) := by decide +kernel
theorem dX12_makes_80 : decode cX12_makes 80 = .ok (.getfield 98, 3) := by decide +kernel
theorem dX12_makes_83 : decode cX12_makes 83 = .ok (.iload_n 1, 1) := by decide +kernel
theorem dX12_makes_84 : decode cX12_makes 84 = .ok (.iaload, 1) := by decide +kernel
theorem dX12_makes_85 : decode cX12_makes 85 = .ok (.imul, 1) := by decide +kernel
theorem dX12_makes_86 : decode cX12_makes 86 = .ok (.iadd, 1) := by decide +kernel
theorem dX12_makes_87 : decode cX12_makes 87 = .ok (.bipush 64, 2) := by decide +kernel
theorem dX12_makes_89 : decode cX12_makes 89 = .ok (.irem, 1) := by decide +kernel
theorem dX12_makes_90 : decode cX12_makes 90 = .ok (.aload_n 0, 1) := by decide +kernel
theorem dX12_makes_91 : decode cX12_makes 91 = .ok (.getfield 59, 3) := by decide +kernel
theorem dX12_makes_94 : decode cX12_makes 94 = .ok (.iload 4, 2) := by decide +kernel
theorem dX12_makes_96 : decode cX12_makes 96 = .ok (.iaload, 1) := by decide +kernel
theorem dX12_makes_97 : decode cX12_makes 97 = .ok (.ishl, 1) := by decide +kernel
theorem dX12_makes_98 : decode cX12_makes 98 = .ok (.goto 10, 3) := by decide +kernel
theorem dX12_makes_101 : decode cX12_makes 101 = .ok (.aload_n 0, 1) := by decide +kernel
theorem dX12_makes_102 : decode cX12_makes 102 = .ok (.iload_n 1, 1) := by decide +kernel
theorem dX12_makes_103 : decode cX12_makes 103 = .ok (.iload 6, 2) := by decide +kernel
theorem dX12_makes_105 : decode cX12_makes 105 = .ok (.invokevirtual 346, 3) := by decide +kernel
theorem dX12_makes_108 : decode cX12_makes 108 = .ok (.iastore, 1) := by decide +kernel
theorem dX12_makes_109 : decode cX12_makes 109 = .ok (.iinc 6 1, 3) := by decide +kernel
theorem dX12_makes_112 : decode cX12_makes 112 = .ok (.goto (-65), 3) := by decide +kernel
theorem dX12_makes_115 : decode cX12_makes 115 = .ok (.aload_n 0, 1) := by decide +kernel
theorem dX12_makes_116 : decode cX12_makes 116 = .ok (.getfield 98, 3) := by decide +kernel
theorem dX12_makes_119 : decode cX12_makes 119 = .ok (.iload_n 1, 1) := by decide +kernel
theorem dX12_makes_120 : decode cX12_makes 120 = .ok (.dup2, 1) := by decide +kernel
theorem dX12_makes_121 : decode cX12_makes 121 = .ok (.iaload, 1) := by decide +kernel
theorem dX12_makes_122 : decode cX12_makes 122 = .ok (.iconst 1, 1) := by decide +kernel
theorem dX12_makes_123 : decode cX12_makes 123 = .ok (.iadd, 1) := by decide +kernel
theorem dX12_makes_124 : decode cX12_makes 124 = .ok (.iastore, 1) := by decide +kernel
theorem dX12_makes_125 : decode cX12_makes 125 = .ok (.iload_n 2, 1) := by decide +kernel
theorem dX12_makes_126 : decode cX12_makes 126 = .ok (.ifCond .eq 29, 3) := by decide +kernel
theorem dX12_makes_129 : decode cX12_makes 129 = .ok (.aload_n 0, 1) := by decide +kernel
theorem dX12_makes_130 : decode cX12_makes 130 = .ok (.getfield 129, 3) := by decide +kernel
theorem dX12_makes_133 : decode cX12_makes 133 = .ok (.iload_n 1, 1) := by decide +kernel
theorem dX12_makes_134 : decode cX12_makes 134 = .ok (.aload_n 0, 1) := by decide +kernel
theorem dX12_makes_135 : decode cX12_makes 135 = .ok (.getfield 83, 3) := by decide +kernel
theorem dX12_makes_138 : decode cX12_makes 138 = .ok (.iload_n 1, 1) := by decide +kernel
theorem dX12_makes_139 : decode cX12_makes 139 = .ok (.iaload, 1) := by decide +kernel
theorem dX12_makes_140 : decode cX12_makes 140 = .ok (.iastore, 1) := by decide +kernel
theorem dX12_makes_141 : decode cX12_makes 141 = .ok (.aload_n 0, 1) := by decide +kernel
theorem dX12_makes_142 : decode cX12_makes 142 = .ok (.iload_n 1, 1) := by decide +kernel
theorem dX12_makes_143 : decode cX12_makes 143 = .ok (.iload 5, 2) := by decide +kernel
theorem dX12_makes_145 : decode cX12_makes 145 = .ok (.invokevirtual 398, 3) := by decide +kernel
theorem dX12_makes_148 : decode cX12_makes 148 = .ok (.aload_n 0, 1) := by decide +kernel
theorem dX12_makes_149 : decode cX12_makes 149 = .ok (.getfield 89, 3) := by decide +kernel
theorem dX12_makes_152 : decode cX12_makes 152 = .ok (.iload_n 1, 1) := by decide +kernel
theorem dX12_makes_153 : decode cX12_makes 153 = .ok (.iload_n 3, 1) := by decide +kernel
theorem dX12_makes_154 : decode cX12_makes 154 = .ok (.bastore, 1) := by decide +kernel
theorem dX12_makes_155 : decode cX12_makes 155 = .ok (.return_, 1) := by decide +kernel
theorem dX12_writes_0 : decode cX12_writes 0 = .ok (.aload_n 0, 1) := by decide +kernel
theorem dX12_writes_1 : decode cX12_writes 1 = .ok (.getfield 83, 3) := by decide +kernel
theorem dX12_writes_4 : decode cX12_writes 4 = .ok (.iload_n 1, 1) := by decide +kernel
theorem dX12_writes_5 : decode cX12_writes 5 = .ok (.iload_n 2, 1) := by decide +kernel
theorem dX12_writes_6 : decode cX12_writes 6 = .ok (.iconst 1, 1) := by decide +kernel
theorem dX12_writes_7 : decode cX12_writes 7 = .ok (.iadd, 1) := by decide +kernel
theorem dX12_writes_8 : decode cX12_writes 8 = .ok (.iastore, 1) := by decide +kernel
theorem dX12_writes_9 : decode cX12_writes 9 = .ok (.aload_n 0, 1) := by decide +kernel
theorem dX12_writes_10 : decode cX12_writes 10 = .ok (.getfield 89, 3) := by decide +kernel
theorem dX12_writes_13 : decode cX12_writes 13 = .ok (.iload_n 1, 1) := by decide +kernel
theorem dX12_writes_14 : decode cX12_writes 14 = .ok (.iconst 0, 1) := by decide +kernel
theorem dX12_writes_15 : decode cX12_writes 15 = .ok (.bastore, 1) := by decide +kernel
theorem dX12_writes_16 : decode cX12_writes 16 = .ok (.aload_n 0, 1) := by decide +kernel
theorem dX12_writes_17 : decode cX12_writes 17 = .ok (.getfield 92, 3) := by decide +kernel
theorem dX12_writes_20 : decode cX12_writes 20 = .ok (.iload_n 1, 1) := by decide +kernel
theorem dX12_writes_21 : decode cX12_writes 21 = .ok (.iconst 0, 1) := by decide +kernel
theorem dX12_writes_22 : decode cX12_writes 22 = .ok (.iastore, 1) := by decide +kernel
theorem dX12_writes_23 : decode cX12_writes 23 = .ok (.iconst 0, 1) := by decide +kernel
theorem dX12_writes_24 : decode cX12_writes 24 = .ok (.istore_n 3, 1) := by decide +kernel
theorem dX12_writes_25 : decode cX12_writes 25 = .ok (.iload_n 3, 1) := by decide +kernel
theorem dX12_writes_26 : decode cX12_writes 26 = .ok (.iconst 3, 1) := by decide +kernel
theorem dX12_writes_27 : decode cX12_writes 27 = .ok (.if_icmp .ge 29, 3) := by decide +kernel
theorem dX12_writes_30 : decode cX12_writes 30 = .ok (.aload_n 0, 1) := by decide +kernel
theorem dX12_writes_31 : decode cX12_writes 31 = .ok (.getfield 86, 3) := by decide +kernel
theorem dX12_writes_34 : decode cX12_writes 34 = .ok (.iconst 3, 1) := by decide +kernel
theorem dX12_writes_35 : decode cX12_writes 35 = .ok (.iload_n 1, 1) := by decide +kernel
theorem dX12_writes_36 : decode cX12_writes 36 = .ok (.imul, 1) := by decide +kernel
theorem dX12_writes_37 : decode cX12_writes 37 = .ok (.iload_n 3, 1) := by decide +kernel
theorem dX12_writes_38 : decode cX12_writes 38 = .ok (.iadd, 1) := by decide +kernel
theorem dX12_writes_39 : decode cX12_writes 39 = .ok (.aload_n 0, 1) := by decide +kernel
theorem dX12_writes_40 : decode cX12_writes 40 = .ok (.getfield 77, 3) := by decide +kernel
theorem dX12_writes_43 : decode cX12_writes 43 = .ok (.iconst 3, 1) := by decide +kernel
theorem dX12_writes_44 : decode cX12_writes 44 = .ok (.iload_n 2, 1) := by decide +kernel
theorem dX12_writes_45 : decode cX12_writes 45 = .ok (.imul, 1) := by decide +kernel
theorem dX12_writes_46 : decode cX12_writes 46 = .ok (.iload_n 3, 1) := by decide +kernel
theorem dX12_writes_47 : decode cX12_writes 47 = .ok (.iadd, 1) := by decide +kernel
theorem dX12_writes_48 : decode cX12_writes 48 = .ok (.iaload, 1) := by decide +kernel
theorem dX12_writes_49 : decode cX12_writes 49 = .ok (.iastore, 1) := by decide +kernel
theorem dX12_writes_50 : decode cX12_writes 50 = .ok (.iinc 3 1, 3) := by decide +kernel
theorem dX12_writes_53 : decode cX12_writes 53 = .ok (.goto (-28), 3) := by decide +kernel
theorem dX12_writes_56 : decode cX12_writes 56 = .ok (.return_, 1) := by decide +kernel
theorem dX12_changesNow_0 : decode cX12_changesNow 0 = .ok (.aload_n 0, 1) := by decide +kernel
theorem dX12_changesNow_1 : decode cX12_changesNow 1 = .ok (.getfield 83, 3) := by decide +kernel
theorem dX12_changesNow_4 : decode cX12_changesNow 4 = .ok (.iload_n 1, 1) := by decide +kernel
theorem dX12_changesNow_5 : decode cX12_changesNow 5 = .ok (.iaload, 1) := by decide +kernel
theorem dX12_changesNow_6 : decode cX12_changesNow 6 = .ok (.iconst 1, 1) := by decide +kernel
theorem dX12_changesNow_7 : decode cX12_changesNow 7 = .ok (.isub, 1) := by decide +kernel
theorem dX12_changesNow_8 : decode cX12_changesNow 8 = .ok (.istore_n 3, 1) := by decide +kernel
theorem dX12_changesNow_9 : decode cX12_changesNow 9 = .ok (.iconst 0, 1) := by decide +kernel
theorem dX12_changesNow_10 : decode cX12_changesNow 10 = .ok (.istore 4, 2) := by decide +kernel
theorem dX12_changesNow_12 : decode cX12_changesNow 12 = .ok (.iconst 0, 1) := by decide +kernel
theorem dX12_changesNow_13 : decode cX12_changesNow 13 = .ok (.istore 5, 2) := by decide +kernel
theorem dX12_changesNow_15 : decode cX12_changesNow 15 = .ok (.iload 5, 2) := by decide +kernel
theorem dX12_changesNow_17 : decode cX12_changesNow 17 = .ok (.iconst 3, 1) := by decide +kernel
theorem dX12_changesNow_18 : decode cX12_changesNow 18 = .ok (.if_icmp .ge 32, 3) := by decide +kernel
theorem dX12_changesNow_21 : decode cX12_changesNow 21 = .ok (.iload 4, 2) := by decide +kernel
theorem dX12_changesNow_23 : decode cX12_changesNow 23 = .ok (.aload_n 0, 1) := by decide +kernel
theorem dX12_changesNow_24 : decode cX12_changesNow 24 = .ok (.iload_n 1, 1) := by decide +kernel
theorem dX12_changesNow_25 : decode cX12_changesNow 25 = .ok (.iload 5, 2) := by decide +kernel
theorem dX12_changesNow_27 : decode cX12_changesNow 27 = .ok (.invokevirtual 352, 3) := by decide +kernel
theorem dX12_changesNow_30 : decode cX12_changesNow 30 = .ok (.ifCond .eq 10, 3) := by decide +kernel
theorem dX12_changesNow_33 : decode cX12_changesNow 33 = .ok (.iconst 1, 1) := by decide +kernel
theorem dX12_changesNow_34 : decode cX12_changesNow 34 = .ok (.iload 5, 2) := by decide +kernel
theorem dX12_changesNow_36 : decode cX12_changesNow 36 = .ok (.ishl, 1) := by decide +kernel
theorem dX12_changesNow_37 : decode cX12_changesNow 37 = .ok (.goto 4, 3) := by decide +kernel
theorem dX12_changesNow_40 : decode cX12_changesNow 40 = .ok (.iconst 0, 1) := by decide +kernel
theorem dX12_changesNow_41 : decode cX12_changesNow 41 = .ok (.ior, 1) := by decide +kernel
theorem dX12_changesNow_42 : decode cX12_changesNow 42 = .ok (.istore 4, 2) := by decide +kernel
theorem dX12_changesNow_44 : decode cX12_changesNow 44 = .ok (.iinc 5 1, 3) := by decide +kernel
theorem dX12_changesNow_47 : decode cX12_changesNow 47 = .ok (.goto (-32), 3) := by decide +kernel
theorem dX12_changesNow_50 : decode cX12_changesNow 50 = .ok (.iconst 0, 1) := by decide +kernel
theorem dX12_changesNow_51 : decode cX12_changesNow 51 = .ok (.istore 5, 2) := by decide +kernel
theorem dX12_changesNow_53 : decode cX12_changesNow 53 = .ok (.iload 5, 2) := by decide +kernel
theorem dX12_changesNow_55 : decode cX12_changesNow 55 = .ok (.iconst 3, 1) := by decide +kernel
theorem dX12_changesNow_56 : decode cX12_changesNow 56 = .ok (.if_icmp .ge 97, 3) := by decide +kernel
theorem dX12_changesNow_59 : decode cX12_changesNow 59 = .ok (.iload 4, 2) := by decide +kernel
theorem dX12_changesNow_61 : decode cX12_changesNow 61 = .ok (.iload 5, 2) := by decide +kernel
theorem dX12_changesNow_63 : decode cX12_changesNow 63 = .ok (.ishr, 1) := by decide +kernel
theorem dX12_changesNow_64 : decode cX12_changesNow 64 = .ok (.iconst 1, 1) := by decide +kernel
theorem dX12_changesNow_65 : decode cX12_changesNow 65 = .ok (.iand, 1) := by decide +kernel
theorem dX12_changesNow_66 : decode cX12_changesNow 66 = .ok (.iconst 1, 1) := by decide +kernel
theorem dX12_changesNow_67 : decode cX12_changesNow 67 = .ok (.if_icmp .ne 80, 3) := by decide +kernel
theorem dX12_changesNow_70 : decode cX12_changesNow 70 = .ok (.aload_n 0, 1) := by decide +kernel
theorem dX12_changesNow_71 : decode cX12_changesNow 71 = .ok (.iload_n 1, 1) := by decide +kernel
theorem dX12_changesNow_72 : decode cX12_changesNow 72 = .ok (.iload 5, 2) := by decide +kernel
theorem dX12_changesNow_74 : decode cX12_changesNow 74 = .ok (.invokevirtual 346, 3) := by decide +kernel
theorem dX12_changesNow_77 : decode cX12_changesNow 77 = .ok (.istore 6, 2) := by decide +kernel
theorem dX12_changesNow_79 : decode cX12_changesNow 79 = .ok (.aload_n 0, 1) := by decide +kernel
theorem dX12_changesNow_80 : decode cX12_changesNow 80 = .ok (.getfield 77, 3) := by decide +kernel
theorem dX12_changesNow_83 : decode cX12_changesNow 83 = .ok (.iconst 3, 1) := by decide +kernel
theorem dX12_changesNow_84 : decode cX12_changesNow 84 = .ok (.iload_n 3, 1) := by decide +kernel
theorem dX12_changesNow_85 : decode cX12_changesNow 85 = .ok (.imul, 1) := by decide +kernel
theorem dX12_changesNow_86 : decode cX12_changesNow 86 = .ok (.iload 5, 2) := by decide +kernel
theorem dX12_changesNow_88 : decode cX12_changesNow 88 = .ok (.iadd, 1) := by decide +kernel
theorem dX12_changesNow_89 : decode cX12_changesNow 89 = .ok (.aload_n 0, 1) := by decide +kernel
theorem dX12_changesNow_90 : decode cX12_changesNow 90 = .ok (.getfield 80, 3) := by decide +kernel
theorem dX12_changesNow_93 : decode cX12_changesNow 93 = .ok (.iload_n 3, 1) := by decide +kernel
theorem dX12_changesNow_94 : decode cX12_changesNow 94 = .ok (.baload, 1) := by decide +kernel
theorem dX12_changesNow_95 : decode cX12_changesNow 95 = .ok (.ifCond .eq 17, 3) := by decide +kernel
theorem dX12_changesNow_98 : decode cX12_changesNow 98 = .ok (.aload_n 0, 1) := by decide +kernel
theorem dX12_changesNow_99 : decode cX12_changesNow 99 = .ok (.getfield 77, 3) := by decide +kernel
theorem dX12_changesNow_102 : decode cX12_changesNow 102 = .ok (.iconst 3, 1) := by decide +kernel
theorem dX12_changesNow_103 : decode cX12_changesNow 103 = .ok (.iload_n 3, 1) := by decide +kernel
theorem dX12_changesNow_104 : decode cX12_changesNow 104 = .ok (.imul, 1) := by decide +kernel
theorem dX12_changesNow_105 : decode cX12_changesNow 105 = .ok (.iload 5, 2) := by decide +kernel
theorem dX12_changesNow_107 : decode cX12_changesNow 107 = .ok (.iadd, 1) := by decide +kernel
theorem dX12_changesNow_108 : decode cX12_changesNow 108 = .ok (.iaload, 1) := by decide +kernel
theorem dX12_changesNow_109 : decode cX12_changesNow 109 = .ok (.goto 5, 3) := by decide +kernel
theorem dX12_changesNow_112 : decode cX12_changesNow 112 = .ok (.iload 6, 2) := by decide +kernel
theorem dX12_changesNow_114 : decode cX12_changesNow 114 = .ok (.iastore, 1) := by decide +kernel
theorem dX12_changesNow_115 : decode cX12_changesNow 115 = .ok (.iload_n 2, 1) := by decide +kernel
theorem dX12_changesNow_116 : decode cX12_changesNow 116 = .ok (.ifCond .eq 31, 3) := by decide +kernel
theorem dX12_changesNow_119 : decode cX12_changesNow 119 = .ok (.aload_n 0, 1) := by decide +kernel
theorem dX12_changesNow_120 : decode cX12_changesNow 120 = .ok (.getfield 86, 3) := by decide +kernel
theorem dX12_changesNow_123 : decode cX12_changesNow 123 = .ok (.iconst 3, 1) := by decide +kernel
theorem dX12_changesNow_124 : decode cX12_changesNow 124 = .ok (.iload_n 1, 1) := by decide +kernel
theorem dX12_changesNow_125 : decode cX12_changesNow 125 = .ok (.imul, 1) := by decide +kernel
theorem dX12_changesNow_126 : decode cX12_changesNow 126 = .ok (.iload 5, 2) := by decide +kernel
theorem dX12_changesNow_128 : decode cX12_changesNow 128 = .ok (.iadd, 1) := by decide +kernel
theorem dX12_changesNow_129 : decode cX12_changesNow 129 = .ok (.iload 6, 2) := by decide +kernel
theorem dX12_changesNow_131 : decode cX12_changesNow 131 = .ok (.iastore, 1) := by decide +kernel
theorem dX12_changesNow_132 : decode cX12_changesNow 132 = .ok (.aload_n 0, 1) := by decide +kernel
theorem dX12_changesNow_133 : decode cX12_changesNow 133 = .ok (.getfield 92, 3) := by decide +kernel
theorem dX12_changesNow_136 : decode cX12_changesNow 136 = .ok (.iload_n 1, 1) := by decide +kernel
theorem dX12_changesNow_137 : decode cX12_changesNow 137 = .ok (.dup2, 1) := by decide +kernel
theorem dX12_changesNow_138 : decode cX12_changesNow 138 = .ok (.iaload, 1) := by decide +kernel
theorem dX12_changesNow_139 : decode cX12_changesNow 139 = .ok (.iconst 1, 1) := by decide +kernel
theorem dX12_changesNow_140 : decode cX12_changesNow 140 = .ok (.iload 5, 2) := by decide +kernel
theorem dX12_changesNow_142 : decode cX12_changesNow 142 = .ok (.ishl, 1) := by decide +kernel
theorem dX12_changesNow_143 : decode cX12_changesNow 143 = .ok (.iconst (-1), 1) := by decide +kernel
theorem dX12_changesNow_144 : decode cX12_changesNow 144 = .ok (.ixor, 1) := by decide +kernel
theorem dX12_changesNow_145 : decode cX12_changesNow 145 = .ok (.iand, 1) := by decide +kernel
theorem dX12_changesNow_146 : decode cX12_changesNow 146 = .ok (.iastore, 1) := by decide +kernel
theorem dX12_changesNow_147 : decode cX12_changesNow 147 = .ok (.iinc 5 1, 3) := by decide +kernel
theorem dX12_changesNow_150 : decode cX12_changesNow 150 = .ok (.goto (-97), 3) := by decide +kernel
theorem dX12_changesNow_153 : decode cX12_changesNow 153 = .ok (.return_, 1) := by decide +kernel
theorem dX12_does_0 : decode cX12_does 0 = .ok (.aload_n 0, 1) := by decide +kernel
theorem dX12_does_1 : decode cX12_does 1 = .ok (.invokevirtual 364, 3) := by decide +kernel
theorem dX12_does_4 : decode cX12_does 4 = .ok (.iload_n 3, 1) := by decide +kernel
theorem dX12_does_5 : decode cX12_does 5 = .ok (.iconst 2, 1) := by decide +kernel
theorem dX12_does_6 : decode cX12_does 6 = .ok (.if_icmp .eq 7, 3) := by decide +kernel
theorem dX12_does_9 : decode cX12_does 9 = .ok (.iconst 1, 1) := by decide +kernel
theorem dX12_does_10 : decode cX12_does 10 = .ok (.goto 4, 3) := by decide +kernel
theorem dX12_does_13 : decode cX12_does 13 = .ok (.iconst 0, 1) := by decide +kernel
theorem dX12_does_14 : decode cX12_does 14 = .ok (.istore 4, 2) := by decide +kernel
theorem dX12_does_16 : decode cX12_does 16 = .ok (.iload_n 1, 1) := by decide +kernel
theorem dX12_does_17 : decode cX12_does 17 = .ok (.iconst 1, 1) := by decide +kernel
theorem dX12_does_18 : decode cX12_does 18 = .ok (.if_icmp .ne 70, 3) := by decide +kernel
theorem dX12_does_21 : decode cX12_does 21 = .ok (.aload_n 0, 1) := by decide +kernel
theorem dX12_does_22 : decode cX12_does 22 = .ok (.getfield 315, 3) := by decide +kernel
theorem dX12_does_25 : decode cX12_does 25 = .ok (.bipush 60, 2) := by decide +kernel
theorem dX12_does_27 : decode cX12_does 27 = .ok (.if_icmp .eq 12, 3) := by decide +kernel
theorem dX12_does_30 : decode cX12_does 30 = .ok (.aload_n 0, 1) := by decide +kernel
theorem dX12_does_31 : decode cX12_does 31 = .ok (.iload_n 2, 1) := by decide +kernel
theorem dX12_does_32 : decode cX12_does 32 = .ok (.iconst 1, 1) := by decide +kernel
theorem dX12_does_33 : decode cX12_does 33 = .ok (.invokevirtual 401, 3) := by decide +kernel
theorem dX12_does_36 : decode cX12_does 36 = .ok (.ifCond .ne 5, 3) := by decide +kernel
theorem dX12_does_39 : decode cX12_does 39 = .ok (.iconst 0, 1) := by decide +kernel
theorem dX12_does_40 : decode cX12_does 40 = .ok (.ireturn, 1) := by decide +kernel
theorem dX12_does_41 : decode cX12_does 41 = .ok (.aload_n 0, 1) := by decide +kernel
theorem dX12_does_42 : decode cX12_does 42 = .ok (.iload_n 2, 1) := by decide +kernel
theorem dX12_does_43 : decode cX12_does 43 = .ok (.iload 4, 2) := by decide +kernel
theorem dX12_does_45 : decode cX12_does 45 = .ok (.iload_n 3, 1) := by decide +kernel
theorem dX12_does_46 : decode cX12_does 46 = .ok (.iconst 1, 1) := by decide +kernel
theorem dX12_does_47 : decode cX12_does 47 = .ok (.if_icmp .ne 7, 3) := by decide +kernel
theorem dX12_does_50 : decode cX12_does 50 = .ok (.iconst 1, 1) := by decide +kernel
theorem dX12_does_51 : decode cX12_does 51 = .ok (.goto 4, 3) := by decide +kernel
theorem dX12_does_54 : decode cX12_does 54 = .ok (.iconst 0, 1) := by decide +kernel
theorem dX12_does_55 : decode cX12_does 55 = .ok (.invokevirtual 405, 3) := by decide +kernel
theorem dX12_does_58 : decode cX12_does 58 = .ok (.aload_n 0, 1) := by decide +kernel
theorem dX12_does_59 : decode cX12_does 59 = .ok (.dup, 1) := by decide +kernel
theorem dX12_does_60 : decode cX12_does 60 = .ok (.getfield 343, 3) := by decide +kernel
theorem dX12_does_63 : decode cX12_does 63 = .ok (.iload 4, 2) := by decide +kernel
theorem dX12_does_65 : decode cX12_does 65 = .ok (.ifCond .eq 7, 3) := by decide +kernel
theorem dX12_does_68 : decode cX12_does 68 = .ok (.iconst 1, 1) := by decide +kernel
theorem dX12_does_69 : decode cX12_does 69 = .ok (.goto 4, 3) := by decide +kernel
theorem dX12_does_72 : decode cX12_does 72 = .ok (.iconst 0, 1) := by decide +kernel
theorem dX12_does_73 : decode cX12_does 73 = .ok (.iadd, 1) := by decide +kernel
theorem dX12_does_74 : decode cX12_does 74 = .ok (.putfield 343, 3) := by decide +kernel
theorem dX12_does_77 : decode cX12_does 77 = .ok (.iload_n 3, 1) := by decide +kernel
theorem dX12_does_78 : decode cX12_does 78 = .ok (.iconst 1, 1) := by decide +kernel
theorem dX12_does_79 : decode cX12_does 79 = .ok (.if_icmp .eq 7, 3) := by decide +kernel
theorem dX12_does_82 : decode cX12_does 82 = .ok (.iconst 1, 1) := by decide +kernel
theorem dX12_does_83 : decode cX12_does 83 = .ok (.goto 4, 3) := by decide +kernel
theorem dX12_does_86 : decode cX12_does 86 = .ok (.iconst 0, 1) := by decide +kernel
theorem dX12_does_87 : decode cX12_does 87 = .ok (.ireturn, 1) := by decide +kernel
theorem dX12_does_88 : decode cX12_does 88 = .ok (.iload_n 3, 1) := by decide +kernel
theorem dX12_does_89 : decode cX12_does 89 = .ok (.iconst 1, 1) := by decide +kernel
theorem dX12_does_90 : decode cX12_does 90 = .ok (.if_icmp .eq 17, 3) := by decide +kernel
theorem dX12_does_93 : decode cX12_does 93 = .ok (.iload_n 1, 1) := by decide +kernel
theorem dX12_does_94 : decode cX12_does 94 = .ok (.iconst 2, 1) := by decide +kernel
theorem dX12_does_95 : decode cX12_does 95 = .ok (.if_icmp .ne 14, 3) := by decide +kernel
theorem dX12_does_98 : decode cX12_does 98 = .ok (.aload_n 0, 1) := by decide +kernel
theorem dX12_does_99 : decode cX12_does 99 = .ok (.iload_n 2, 1) := by decide +kernel
theorem dX12_does_100 : decode cX12_does 100 = .ok (.iconst 0, 1) := by decide +kernel
theorem dX12_does_101 : decode cX12_does 101 = .ok (.invokevirtual 401, 3) := by decide +kernel
theorem dX12_does_104 : decode cX12_does 104 = .ok (.ifCond .ne 5, 3) := by decide +kernel
theorem dX12_does_107 : decode cX12_does 107 = .ok (.iconst 0, 1) := by decide +kernel
theorem dX12_does_108 : decode cX12_does 108 = .ok (.ireturn, 1) := by decide +kernel
theorem dX12_does_109 : decode cX12_does 109 = .ok (.iload_n 1, 1) := by decide +kernel
theorem dX12_does_110 : decode cX12_does 110 = .ok (.iconst 2, 1) := by decide +kernel
theorem dX12_does_111 : decode cX12_does 111 = .ok (.if_icmp .ne 13, 3) := by decide +kernel
theorem dX12_does_114 : decode cX12_does 114 = .ok (.aload_n 0, 1) := by decide +kernel
theorem dX12_does_115 : decode cX12_does 115 = .ok (.iload_n 2, 1) := by decide +kernel
theorem dX12_does_116 : decode cX12_does 116 = .ok (.iload 4, 2) := by decide +kernel
theorem dX12_does_118 : decode cX12_does 118 = .ok (.invokevirtual 409, 3) := by decide +kernel
theorem dX12_does_121 : decode cX12_does 121 = .ok (.goto 69, 3) := by decide +kernel
theorem dX12_does_124 : decode cX12_does 124 = .ok (.iload_n 1, 1) := by decide +kernel
theorem dX12_does_125 : decode cX12_does 125 = .ok (.iconst 3, 1) := by decide +kernel
theorem dX12_does_126 : decode cX12_does 126 = .ok (.if_icmp .ne 41, 3) := by decide +kernel
theorem dX12_does_129 : decode cX12_does 129 = .ok (.aload_n 0, 1) := by decide +kernel
theorem dX12_does_130 : decode cX12_does 130 = .ok (.getfield 80, 3) := by decide +kernel
theorem dX12_does_133 : decode cX12_does 133 = .ok (.aload_n 0, 1) := by decide +kernel
theorem dX12_does_134 : decode cX12_does 134 = .ok (.getfield 83, 3) := by decide +kernel
theorem dX12_does_137 : decode cX12_does 137 = .ok (.iload_n 2, 1) := by decide +kernel
theorem dX12_does_138 : decode cX12_does 138 = .ok (.iaload, 1) := by decide +kernel
theorem dX12_does_139 : decode cX12_does 139 = .ok (.iconst 1, 1) := by decide +kernel
theorem dX12_does_140 : decode cX12_does 140 = .ok (.isub, 1) := by decide +kernel
theorem dX12_does_141 : decode cX12_does 141 = .ok (.iconst 1, 1) := by decide +kernel
theorem dX12_does_142 : decode cX12_does 142 = .ok (.bastore, 1) := by decide +kernel
theorem dX12_does_143 : decode cX12_does 143 = .ok (.aload_n 0, 1) := by decide +kernel
theorem dX12_does_144 : decode cX12_does 144 = .ok (.getfield 83, 3) := by decide +kernel
theorem dX12_does_147 : decode cX12_does 147 = .ok (.iload_n 2, 1) := by decide +kernel
theorem dX12_does_148 : decode cX12_does 148 = .ok (.iload 4, 2) := by decide +kernel
theorem dX12_does_150 : decode cX12_does 150 = .ok (.ifCond .eq 7, 3) := by decide +kernel
theorem dX12_does_153 : decode cX12_does 153 = .ok (.iconst 0, 1) := by decide +kernel
theorem dX12_does_154 : decode cX12_does 154 = .ok (.goto 9, 3) := by decide +kernel
theorem dX12_does_157 : decode cX12_does 157 = .ok (.aload_n 0, 1) := by decide +kernel
theorem dX12_does_158 : decode cX12_does 158 = .ok (.getfield 83, 3) := by decide +kernel
theorem dX12_does_161 : decode cX12_does 161 = .ok (.iload_n 2, 1) := by decide +kernel
theorem dX12_does_162 : decode cX12_does 162 = .ok (.iaload, 1) := by decide +kernel
theorem dX12_does_163 : decode cX12_does 163 = .ok (.iastore, 1) := by decide +kernel
theorem dX12_does_164 : decode cX12_does 164 = .ok (.goto 26, 3) := by decide +kernel
theorem dX12_does_167 : decode cX12_does 167 = .ok (.aload_n 0, 1) := by decide +kernel
theorem dX12_does_168 : decode cX12_does 168 = .ok (.getfield 129, 3) := by decide +kernel
theorem dX12_does_171 : decode cX12_does 171 = .ok (.iload_n 2, 1) := by decide +kernel
theorem dX12_does_172 : decode cX12_does 172 = .ok (.iaload, 1) := by decide +kernel
theorem dX12_does_173 : decode cX12_does 173 = .ok (.ifCond .le 17, 3) := by decide +kernel
theorem dX12_does_176 : decode cX12_does 176 = .ok (.aload_n 0, 1) := by decide +kernel
theorem dX12_does_177 : decode cX12_does 177 = .ok (.getfield 80, 3) := by decide +kernel
theorem dX12_does_180 : decode cX12_does 180 = .ok (.aload_n 0, 1) := by decide +kernel
theorem dX12_does_181 : decode cX12_does 181 = .ok (.getfield 129, 3) := by decide +kernel
theorem dX12_does_184 : decode cX12_does 184 = .ok (.iload_n 2, 1) := by decide +kernel
theorem dX12_does_185 : decode cX12_does 185 = .ok (.iaload, 1) := by decide +kernel
theorem dX12_does_186 : decode cX12_does 186 = .ok (.iconst 1, 1) := by decide +kernel
theorem dX12_does_187 : decode cX12_does 187 = .ok (.isub, 1) := by decide +kernel
theorem dX12_does_188 : decode cX12_does 188 = .ok (.iconst 1, 1) := by decide +kernel
theorem dX12_does_189 : decode cX12_does 189 = .ok (.bastore, 1) := by decide +kernel
theorem dX12_does_190 : decode cX12_does 190 = .ok (.aload_n 0, 1) := by decide +kernel
theorem dX12_does_191 : decode cX12_does 191 = .ok (.dup, 1) := by decide +kernel
theorem dX12_does_192 : decode cX12_does 192 = .ok (.getfield 343, 3) := by decide +kernel
theorem dX12_does_195 : decode cX12_does 195 = .ok (.iload 4, 2) := by decide +kernel
theorem dX12_does_197 : decode cX12_does 197 = .ok (.ifCond .eq 7, 3) := by decide +kernel
theorem dX12_does_200 : decode cX12_does 200 = .ok (.iconst 1, 1) := by decide +kernel
theorem dX12_does_201 : decode cX12_does 201 = .ok (.goto 4, 3) := by decide +kernel
theorem dX12_does_204 : decode cX12_does 204 = .ok (.iconst 0, 1) := by decide +kernel
theorem dX12_does_205 : decode cX12_does 205 = .ok (.iadd, 1) := by decide +kernel
theorem dX12_does_206 : decode cX12_does 206 = .ok (.putfield 343, 3) := by decide +kernel
theorem dX12_does_209 : decode cX12_does 209 = .ok (.iconst 1, 1) := by decide +kernel
theorem dX12_does_210 : decode cX12_does 210 = .ok (.ireturn, 1) := by decide +kernel
theorem dX12_step_0 : decode cX12_step 0 = .ok (.aload_n 0, 1) := by decide +kernel
theorem dX12_step_1 : decode cX12_step 1 = .ok (.iload_n 1, 1) := by decide +kernel
theorem dX12_step_2 : decode cX12_step 2 = .ok (.iconst 0, 1) := by decide +kernel
theorem dX12_step_3 : decode cX12_step 3 = .ok (.iconst 2, 1) := by decide +kernel
theorem dX12_step_4 : decode cX12_step 4 = .ok (.invokestatic 169, 3) := by decide +kernel
theorem dX12_step_7 : decode cX12_step 7 = .ok (.ifCond .ne 7, 3) := by decide +kernel
theorem dX12_step_10 : decode cX12_step 10 = .ok (.iconst 1, 1) := by decide +kernel
theorem dX12_step_11 : decode cX12_step 11 = .ok (.goto 15, 3) := by decide +kernel
theorem dX12_step_14 : decode cX12_step 14 = .ok (.aload_n 0, 1) := by decide +kernel
theorem dX12_step_15 : decode cX12_step 15 = .ok (.getfield 119, 3) := by decide +kernel
theorem dX12_step_18 : decode cX12_step 18 = .ok (.ifCond .ge 7, 3) := by decide +kernel
theorem dX12_step_21 : decode cX12_step 21 = .ok (.iconst 2, 1) := by decide +kernel
theorem dX12_step_22 : decode cX12_step 22 = .ok (.goto 4, 3) := by decide +kernel
theorem dX12_step_25 : decode cX12_step 25 = .ok (.iconst 0, 1) := by decide +kernel
theorem dX12_step_26 : decode cX12_step 26 = .ok (.putfield 166, 3) := by decide +kernel
theorem dX12_step_29 : decode cX12_step 29 = .ok (.aload_n 0, 1) := by decide +kernel
theorem dX12_step_30 : decode cX12_step 30 = .ok (.getfield 166, 3) := by decide +kernel
theorem dX12_step_33 : decode cX12_step 33 = .ok (.ifCond .le 5, 3) := by decide +kernel
theorem dX12_step_36 : decode cX12_step 36 = .ok (.iconst 0, 1) := by decide +kernel
theorem dX12_step_37 : decode cX12_step 37 = .ok (.ireturn, 1) := by decide +kernel
theorem dX12_step_38 : decode cX12_step 38 = .ok (.aload_n 0, 1) := by decide +kernel
theorem dX12_step_39 : decode cX12_step 39 = .ok (.getfield 116, 3) := by decide +kernel
theorem dX12_step_42 : decode cX12_step 42 = .ok (.sipush 128, 3) := by decide +kernel
theorem dX12_step_45 : decode cX12_step 45 = .ok (.aload_n 0, 1) := by decide +kernel
theorem dX12_step_46 : decode cX12_step 46 = .ok (.getfield 119, 3) := by decide +kernel
theorem dX12_step_49 : decode cX12_step 49 = .ok (.imul, 1) := by decide +kernel
theorem dX12_step_50 : decode cX12_step 50 = .ok (.aload_n 0, 1) := by decide +kernel
theorem dX12_step_51 : decode cX12_step 51 = .ok (.getfield 392, 3) := by decide +kernel
theorem dX12_step_54 : decode cX12_step 54 = .ok (.iadd, 1) := by decide +kernel
theorem dX12_step_55 : decode cX12_step 55 = .ok (.iaload, 1) := by decide +kernel
theorem dX12_step_56 : decode cX12_step 56 = .ok (.istore_n 2, 1) := by decide +kernel
theorem dX12_step_57 : decode cX12_step 57 = .ok (.iload_n 2, 1) := by decide +kernel
theorem dX12_step_58 : decode cX12_step 58 = .ok (.bipush 100, 2) := by decide +kernel
theorem dX12_step_60 : decode cX12_step 60 = .ok (.irem, 1) := by decide +kernel
theorem dX12_step_61 : decode cX12_step 61 = .ok (.istore_n 3, 1) := by decide +kernel
theorem dX12_step_62 : decode cX12_step 62 = .ok (.aload_n 0, 1) := by decide +kernel
theorem dX12_step_63 : decode cX12_step 63 = .ok (.getfield 126, 3) := by decide +kernel
theorem dX12_step_66 : decode cX12_step 66 = .ok (.iload_n 3, 1) := by decide +kernel
theorem dX12_step_67 : decode cX12_step 67 = .ok (.dup2, 1) := by decide +kernel
theorem dX12_step_68 : decode cX12_step 68 = .ok (.baload, 1) := by decide +kernel
theorem dX12_step_69 : decode cX12_step 69 = .ok (.aload_n 0, 1) := by decide +kernel
theorem dX12_step_70 : decode cX12_step 70 = .ok (.iload_n 2, 1) := by decide +kernel
theorem dX12_step_71 : decode cX12_step 71 = .ok (.bipush 100, 2) := by decide +kernel
theorem dX12_step_73 : decode cX12_step 73 = .ok (.idiv, 1) := by decide +kernel
theorem dX12_step_74 : decode cX12_step 74 = .ok (.iload_n 3, 1) := by decide +kernel
theorem dX12_step_75 : decode cX12_step 75 = .ok (.iload_n 1, 1) := by decide +kernel
theorem dX12_step_76 : decode cX12_step 76 = .ok (.invokevirtual 413, 3) := by decide +kernel
theorem dX12_step_79 : decode cX12_step 79 = .ok (.ifCond .ne 7, 3) := by decide +kernel
theorem dX12_step_82 : decode cX12_step 82 = .ok (.iconst 1, 1) := by decide +kernel
theorem dX12_step_83 : decode cX12_step 83 = .ok (.goto 4, 3) := by decide +kernel
theorem dX12_step_86 : decode cX12_step 86 = .ok (.iconst 0, 1) := by decide +kernel
theorem dX12_step_87 : decode cX12_step 87 = .ok (.ior, 1) := by decide +kernel
theorem dX12_step_88 : decode cX12_step 88 = .ok (.bastore, 1) := by decide +kernel
theorem dX12_step_89 : decode cX12_step 89 = .ok (.aload_n 0, 1) := by decide +kernel
theorem dX12_step_90 : decode cX12_step 90 = .ok (.dup, 1) := by decide +kernel
theorem dX12_step_91 : decode cX12_step 91 = .ok (.getfield 392, 3) := by decide +kernel
theorem dX12_step_94 : decode cX12_step 94 = .ok (.iconst 1, 1) := by decide +kernel
theorem dX12_step_95 : decode cX12_step 95 = .ok (.iadd, 1) := by decide +kernel
theorem dX12_step_96 : decode cX12_step 96 = .ok (.putfield 392, 3) := by decide +kernel
theorem dX12_step_99 : decode cX12_step 99 = .ok (.iload_n 1, 1) := by decide +kernel
theorem dX12_step_100 : decode cX12_step 100 = .ok (.iconst 2, 1) := by decide +kernel
theorem dX12_step_101 : decode cX12_step 101 = .ok (.if_icmp .ne 11, 3) := by decide +kernel
theorem dX12_step_104 : decode cX12_step 104 = .ok (.aload_n 0, 1) := by decide +kernel
theorem dX12_step_105 : decode cX12_step 105 = .ok (.iconst (-1), 1) := by decide +kernel
theorem dX12_step_106 : decode cX12_step 106 = .ok (.putfield 119, 3) := by decide +kernel
theorem dX12_step_109 : decode cX12_step 109 = .ok (.goto 7, 3) := by decide +kernel
theorem dX12_step_112 : decode cX12_step 112 = .ok (.aload_n 0, 1) := by decide +kernel
theorem dX12_step_113 : decode cX12_step 113 = .ok (.invokevirtual 416, 3) := by decide +kernel
theorem dX12_step_116 : decode cX12_step 116 = .ok (.iload_n 2, 1) := by decide +kernel
theorem dX12_step_117 : decode cX12_step 117 = .ok (.ireturn, 1) := by decide +kernel
theorem dX12_isApplying_0 : decode cX12_isApplying 0 = .ok (.aload_n 0, 1) := by decide +kernel
theorem dX12_isApplying_1 : decode cX12_isApplying 1 = .ok (.iconst 0, 1) := by decide +kernel
theorem dX12_isApplying_2 : decode cX12_isApplying 2 = .ok (.putfield 166, 3) := by decide +kernel
theorem dX12_isApplying_5 : decode cX12_isApplying 5 = .ok (.aload_n 0, 1) := by decide +kernel
theorem dX12_isApplying_6 : decode cX12_isApplying 6 = .ok (.getfield 119, 3) := by decide +kernel
theorem dX12_isApplying_9 : decode cX12_isApplying 9 = .ok (.ifCond .lt 7, 3) := by decide +kernel
theorem dX12_isApplying_12 : decode cX12_isApplying 12 = .ok (.iconst 1, 1) := by decide +kernel
theorem dX12_isApplying_13 : decode cX12_isApplying 13 = .ok (.goto 4, 3) := by decide +kernel
theorem dX12_isApplying_16 : decode cX12_isApplying 16 = .ok (.iconst 0, 1) := by decide +kernel
theorem dX12_isApplying_17 : decode cX12_isApplying 17 = .ok (.ireturn, 1) := by decide +kernel
theorem dX12_isLocked_0 : decode cX12_isLocked 0 = .ok (.aload_n 0, 1) := by decide +kernel
theorem dX12_isLocked_1 : decode cX12_isLocked 1 = .ok (.iconst 0, 1) := by decide +kernel
theorem dX12_isLocked_2 : decode cX12_isLocked 2 = .ok (.putfield 166, 3) := by decide +kernel
theorem dX12_isLocked_5 : decode cX12_isLocked 5 = .ok (.aload_n 0, 1) := by decide +kernel
theorem dX12_isLocked_6 : decode cX12_isLocked 6 = .ok (.getfield 123, 3) := by decide +kernel
theorem dX12_isLocked_9 : decode cX12_isLocked 9 = .ok (.ifCond .lt 7, 3) := by decide +kernel
theorem dX12_isLocked_12 : decode cX12_isLocked 12 = .ok (.iconst 1, 1) := by decide +kernel
theorem dX12_isLocked_13 : decode cX12_isLocked 13 = .ok (.goto 4, 3) := by decide +kernel
theorem dX12_isLocked_16 : decode cX12_isLocked 16 = .ok (.iconst 0, 1) := by decide +kernel
theorem dX12_isLocked_17 : decode cX12_isLocked 17 = .ok (.ireturn, 1) := by decide +kernel
theorem dX12_serial_0 : decode cX12_serial 0 = .ok (.aload_n 0, 1) := by decide +kernel
theorem dX12_serial_1 : decode cX12_serial 1 = .ok (.iconst 0, 1) := by decide +kernel
theorem dX12_serial_2 : decode cX12_serial 2 = .ok (.putfield 166, 3) := by decide +kernel
theorem dX12_serial_5 : decode cX12_serial 5 = .ok (.aload_n 0, 1) := by decide +kernel
theorem dX12_serial_6 : decode cX12_serial 6 = .ok (.getfield 343, 3) := by decide +kernel
theorem dX12_serial_9 : decode cX12_serial 9 = .ok (.ireturn, 1) := by decide +kernel
theorem dX12_entry_0 : decode cX12_entry 0 = .ok (.aload_n 0, 1) := by decide +kernel
theorem dX12_entry_1 : decode cX12_entry 1 = .ok (.iload_n 1, 1) := by decide +kernel
theorem dX12_entry_2 : decode cX12_entry 2 = .ok (.invokevirtual 419, 3) := by decide +kernel
theorem dX12_entry_5 : decode cX12_entry 5 = .ok (.ifCond .ne 5, 3) := by decide +kernel
theorem dX12_entry_8 : decode cX12_entry 8 = .ok (.iconst 0, 1) := by decide +kernel
theorem dX12_entry_9 : decode cX12_entry 9 = .ok (.ireturn, 1) := by decide +kernel
theorem dX12_entry_10 : decode cX12_entry 10 = .ok (.aload_n 0, 1) := by decide +kernel
theorem dX12_entry_11 : decode cX12_entry 11 = .ok (.getfield 83, 3) := by decide +kernel
theorem dX12_entry_14 : decode cX12_entry 14 = .ok (.iload_n 1, 1) := by decide +kernel
theorem dX12_entry_15 : decode cX12_entry 15 = .ok (.iaload, 1) := by decide +kernel
theorem dX12_entry_16 : decode cX12_entry 16 = .ok (.ifCond .ne 7, 3) := by decide +kernel
theorem dX12_entry_19 : decode cX12_entry 19 = .ok (.iconst (-1), 1) := by decide +kernel
theorem dX12_entry_20 : decode cX12_entry 20 = .ok (.goto 39, 3) := by decide +kernel
theorem dX12_entry_23 : decode cX12_entry 23 = .ok (.bipush 100, 2) := by decide +kernel
theorem dX12_entry_25 : decode cX12_entry 25 = .ok (.aload_n 0, 1) := by decide +kernel
theorem dX12_entry_26 : decode cX12_entry 26 = .ok (.getfield 83, 3) := by decide +kernel
theorem dX12_entry_29 : decode cX12_entry 29 = .ok (.iload_n 1, 1) := by decide +kernel
theorem dX12_entry_30 : decode cX12_entry 30 = .ok (.iaload, 1) := by decide +kernel
theorem dX12_entry_31 : decode cX12_entry 31 = .ok (.iconst 1, 1) := by decide +kernel
theorem dX12_entry_32 : decode cX12_entry 32 = .ok (.isub, 1) := by decide +kernel
theorem dX12_entry_33 : decode cX12_entry 33 = .ok (.imul, 1) := by decide +kernel
theorem dX12_entry_34 : decode cX12_entry 34 = .ok (.bipush 10, 2) := by decide +kernel
theorem dX12_entry_36 : decode cX12_entry 36 = .ok (.aload_n 0, 1) := by decide +kernel
theorem dX12_entry_37 : decode cX12_entry 37 = .ok (.getfield 92, 3) := by decide +kernel
theorem dX12_entry_40 : decode cX12_entry 40 = .ok (.iload_n 1, 1) := by decide +kernel
theorem dX12_entry_41 : decode cX12_entry 41 = .ok (.iaload, 1) := by decide +kernel
theorem dX12_entry_42 : decode cX12_entry 42 = .ok (.imul, 1) := by decide +kernel
theorem dX12_entry_43 : decode cX12_entry 43 = .ok (.iadd, 1) := by decide +kernel
theorem dX12_entry_44 : decode cX12_entry 44 = .ok (.aload_n 0, 1) := by decide +kernel
theorem dX12_entry_45 : decode cX12_entry 45 = .ok (.getfield 89, 3) := by decide +kernel
theorem dX12_entry_48 : decode cX12_entry 48 = .ok (.iload_n 1, 1) := by decide +kernel
theorem dX12_entry_49 : decode cX12_entry 49 = .ok (.baload, 1) := by decide +kernel
theorem dX12_entry_50 : decode cX12_entry 50 = .ok (.ifCond .eq 7, 3) := by decide +kernel
theorem dX12_entry_53 : decode cX12_entry 53 = .ok (.iconst 1, 1) := by decide +kernel
theorem dX12_entry_54 : decode cX12_entry 54 = .ok (.goto 4, 3) := by decide +kernel
theorem dX12_entry_57 : decode cX12_entry 57 = .ok (.iconst 0, 1) := by decide +kernel
theorem dX12_entry_58 : decode cX12_entry 58 = .ok (.iadd, 1) := by decide +kernel
theorem dX12_entry_59 : decode cX12_entry 59 = .ok (.ireturn, 1) := by decide +kernel
theorem dX12_stored_0 : decode cX12_stored 0 = .ok (.aload_n 0, 1) := by decide +kernel
theorem dX12_stored_1 : decode cX12_stored 1 = .ok (.aload_n 0, 1) := by decide +kernel
theorem dX12_stored_2 : decode cX12_stored 2 = .ok (.iload_n 1, 1) := by decide +kernel
theorem dX12_stored_3 : decode cX12_stored 3 = .ok (.invokevirtual 374, 3) := by decide +kernel
theorem dX12_stored_6 : decode cX12_stored 6 = .ok (.ifCond .eq 25, 3) := by decide +kernel
theorem dX12_stored_9 : decode cX12_stored 9 = .ok (.aload_n 0, 1) := by decide +kernel
theorem dX12_stored_10 : decode cX12_stored 10 = .ok (.getfield 83, 3) := by decide +kernel
theorem dX12_stored_13 : decode cX12_stored 13 = .ok (.iload_n 1, 1) := by decide +kernel
theorem dX12_stored_14 : decode cX12_stored 14 = .ok (.iaload, 1) := by decide +kernel
theorem dX12_stored_15 : decode cX12_stored 15 = .ok (.ifCond .le 16, 3) := by decide +kernel
theorem dX12_stored_18 : decode cX12_stored 18 = .ok (.iload_n 2, 1) := by decide +kernel
theorem dX12_stored_19 : decode cX12_stored 19 = .ok (.iconst 0, 1) := by decide +kernel
theorem dX12_stored_20 : decode cX12_stored 20 = .ok (.iconst 2, 1) := by decide +kernel
theorem dX12_stored_21 : decode cX12_stored 21 = .ok (.invokestatic 169, 3) := by decide +kernel
theorem dX12_stored_24 : decode cX12_stored 24 = .ok (.ifCond .eq 7, 3) := by decide +kernel
theorem dX12_stored_27 : decode cX12_stored 27 = .ok (.iconst 0, 1) := by decide +kernel
theorem dX12_stored_28 : decode cX12_stored 28 = .ok (.goto 4, 3) := by decide +kernel
theorem dX12_stored_31 : decode cX12_stored 31 = .ok (.iconst 1, 1) := by decide +kernel
theorem dX12_stored_32 : decode cX12_stored 32 = .ok (.putfield 166, 3) := by decide +kernel
theorem dX12_stored_35 : decode cX12_stored 35 = .ok (.aload_n 0, 1) := by decide +kernel
theorem dX12_stored_36 : decode cX12_stored 36 = .ok (.getfield 166, 3) := by decide +kernel
theorem dX12_stored_39 : decode cX12_stored 39 = .ok (.ifCond .le 7, 3) := by decide +kernel
theorem dX12_stored_42 : decode cX12_stored 42 = .ok (.iconst 0, 1) := by decide +kernel
theorem dX12_stored_43 : decode cX12_stored 43 = .ok (.goto 13, 3) := by decide +kernel
theorem dX12_stored_46 : decode cX12_stored 46 = .ok (.aload_n 0, 1) := by decide +kernel
theorem dX12_stored_47 : decode cX12_stored 47 = .ok (.getfield 86, 3) := by decide +kernel
theorem dX12_stored_50 : decode cX12_stored 50 = .ok (.iconst 3, 1) := by decide +kernel
theorem dX12_stored_51 : decode cX12_stored 51 = .ok (.iload_n 1, 1) := by decide +kernel
theorem dX12_stored_52 : decode cX12_stored 52 = .ok (.imul, 1) := by decide +kernel
theorem dX12_stored_53 : decode cX12_stored 53 = .ok (.iload_n 2, 1) := by decide +kernel
theorem dX12_stored_54 : decode cX12_stored 54 = .ok (.iadd, 1) := by decide +kernel
theorem dX12_stored_55 : decode cX12_stored 55 = .ok (.iaload, 1) := by decide +kernel
theorem dX12_stored_56 : decode cX12_stored 56 = .ok (.ireturn, 1) := by decide +kernel
theorem dX12_isResource_0 : decode cX12_isResource 0 = .ok (.iload_n 1, 1) := by decide +kernel
theorem dX12_isResource_1 : decode cX12_isResource 1 = .ok (.iconst 0, 1) := by decide +kernel
theorem dX12_isResource_2 : decode cX12_isResource 2 = .ok (.aload_n 0, 1) := by decide +kernel
theorem dX12_isResource_3 : decode cX12_isResource 3 = .ok (.getfield 315, 3) := by decide +kernel
theorem dX12_isResource_6 : decode cX12_isResource 6 = .ok (.iconst 1, 1) := by decide +kernel
theorem dX12_isResource_7 : decode cX12_isResource 7 = .ok (.isub, 1) := by decide +kernel
theorem dX12_isResource_8 : decode cX12_isResource 8 = .ok (.invokestatic 169, 3) := by decide +kernel
theorem dX12_isResource_11 : decode cX12_isResource 11 = .ok (.ireturn, 1) := by decide +kernel
theorem dX12_real_0 : decode cX12_real 0 = .ok (.aload_n 0, 1) := by decide +kernel
theorem dX12_real_1 : decode cX12_real 1 = .ok (.aload_n 0, 1) := by decide +kernel
theorem dX12_real_2 : decode cX12_real 2 = .ok (.iload_n 1, 1) := by decide +kernel
theorem dX12_real_3 : decode cX12_real 3 = .ok (.invokevirtual 422, 3) := by decide +kernel
theorem dX12_real_6 : decode cX12_real 6 = .ok (.ifCond .eq 16, 3) := by decide +kernel
theorem dX12_real_9 : decode cX12_real 9 = .ok (.iload_n 2, 1) := by decide +kernel
theorem dX12_real_10 : decode cX12_real 10 = .ok (.iconst 0, 1) := by decide +kernel
theorem dX12_real_11 : decode cX12_real 11 = .ok (.iconst 2, 1) := by decide +kernel
theorem dX12_real_12 : decode cX12_real 12 = .ok (.invokestatic 169, 3) := by decide +kernel
theorem dX12_real_15 : decode cX12_real 15 = .ok (.ifCond .eq 7, 3) := by decide +kernel
theorem dX12_real_18 : decode cX12_real 18 = .ok (.iconst 0, 1) := by decide +kernel
theorem dX12_real_19 : decode cX12_real 19 = .ok (.goto 4, 3) := by decide +kernel
theorem dX12_real_22 : decode cX12_real 22 = .ok (.iconst 1, 1) := by decide +kernel
theorem dX12_real_23 : decode cX12_real 23 = .ok (.putfield 166, 3) := by decide +kernel
theorem dX12_real_26 : decode cX12_real 26 = .ok (.aload_n 0, 1) := by decide +kernel
theorem dX12_real_27 : decode cX12_real 27 = .ok (.getfield 166, 3) := by decide +kernel
theorem dX12_real_30 : decode cX12_real 30 = .ok (.ifCond .le 7, 3) := by decide +kernel
theorem dX12_real_33 : decode cX12_real 33 = .ok (.iconst 0, 1) := by decide +kernel
theorem dX12_real_34 : decode cX12_real 34 = .ok (.goto 26, 3) := by decide +kernel
theorem dX12_real_37 : decode cX12_real 37 = .ok (.aload_n 0, 1) := by decide +kernel
theorem dX12_real_38 : decode cX12_real 38 = .ok (.getfield 80, 3) := by decide +kernel
theorem dX12_real_41 : decode cX12_real 41 = .ok (.iload_n 1, 1) := by decide +kernel
theorem dX12_real_42 : decode cX12_real 42 = .ok (.baload, 1) := by decide +kernel
theorem dX12_real_43 : decode cX12_real 43 = .ok (.ifCond .eq 7, 3) := by decide +kernel
theorem dX12_real_46 : decode cX12_real 46 = .ok (.iconst (-1), 1) := by decide +kernel
theorem dX12_real_47 : decode cX12_real 47 = .ok (.goto 13, 3) := by decide +kernel
theorem dX12_real_50 : decode cX12_real 50 = .ok (.aload_n 0, 1) := by decide +kernel
theorem dX12_real_51 : decode cX12_real 51 = .ok (.getfield 77, 3) := by decide +kernel
theorem dX12_real_54 : decode cX12_real 54 = .ok (.iconst 3, 1) := by decide +kernel
theorem dX12_real_55 : decode cX12_real 55 = .ok (.iload_n 1, 1) := by decide +kernel
theorem dX12_real_56 : decode cX12_real 56 = .ok (.imul, 1) := by decide +kernel
theorem dX12_real_57 : decode cX12_real 57 = .ok (.iload_n 2, 1) := by decide +kernel
theorem dX12_real_58 : decode cX12_real 58 = .ok (.iadd, 1) := by decide +kernel
theorem dX12_real_59 : decode cX12_real 59 = .ok (.iaload, 1) := by decide +kernel
theorem dX12_real_60 : decode cX12_real 60 = .ok (.ireturn, 1) := by decide +kernel
theorem dX12_resources_0 : decode cX12_resources 0 = .ok (.aload_n 0, 1) := by decide +kernel
theorem dX12_resources_1 : decode cX12_resources 1 = .ok (.iconst 0, 1) := by decide +kernel
theorem dX12_resources_2 : decode cX12_resources 2 = .ok (.putfield 166, 3) := by decide +kernel
theorem dX12_resources_5 : decode cX12_resources 5 = .ok (.aload_n 0, 1) := by decide +kernel
theorem dX12_resources_6 : decode cX12_resources 6 = .ok (.getfield 315, 3) := by decide +kernel
theorem dX12_resources_9 : decode cX12_resources 9 = .ok (.ireturn, 1) := by decide +kernel
theorem dX12_change_0 : decode cX12_change 0 = .ok (.aload_n 0, 1) := by decide +kernel
theorem dX12_change_1 : decode cX12_change 1 = .ok (.aload_n 0, 1) := by decide +kernel
theorem dX12_change_2 : decode cX12_change 2 = .ok (.iload_n 1, 1) := by decide +kernel
theorem dX12_change_3 : decode cX12_change 3 = .ok (.invokevirtual 422, 3) := by decide +kernel
theorem dX12_change_6 : decode cX12_change 6 = .ok (.ifCond .eq 12, 3) := by decide +kernel
theorem dX12_change_9 : decode cX12_change 9 = .ok (.iload_n 2, 1) := by decide +kernel
theorem dX12_change_10 : decode cX12_change 10 = .ok (.iconst 0, 1) := by decide +kernel
theorem dX12_change_11 : decode cX12_change 11 = .ok (.iconst 2, 1) := by decide +kernel
theorem dX12_change_12 : decode cX12_change 12 = .ok (.invokestatic 169, 3) := by decide +kernel
theorem dX12_change_15 : decode cX12_change 15 = .ok (.ifCond .ne 7, 3) := by decide +kernel
theorem dX12_change_18 : decode cX12_change 18 = .ok (.iconst 1, 1) := by decide +kernel
theorem dX12_change_19 : decode cX12_change 19 = .ok (.goto 32, 3) := by decide +kernel
theorem dX12_change_22 : decode cX12_change 22 = .ok (.iload_n 3, 1) := by decide +kernel
theorem dX12_change_23 : decode cX12_change 23 = .ok (.iconst 0, 1) := by decide +kernel
theorem dX12_change_24 : decode cX12_change 24 = .ok (.sipush 255, 3) := by decide +kernel
theorem dX12_change_27 : decode cX12_change 27 = .ok (.invokestatic 169, 3) := by decide +kernel
theorem dX12_change_30 : decode cX12_change 30 = .ok (.ifCond .ne 7, 3) := by decide +kernel
theorem dX12_change_33 : decode cX12_change 33 = .ok (.iconst 2, 1) := by decide +kernel
theorem dX12_change_34 : decode cX12_change 34 = .ok (.goto 17, 3) := by decide +kernel
theorem dX12_change_37 : decode cX12_change 37 = .ok (.aload_n 0, 1) := by decide +kernel
theorem dX12_change_38 : decode cX12_change 38 = .ok (.getfield 80, 3) := by decide +kernel
theorem dX12_change_41 : decode cX12_change 41 = .ok (.iload_n 1, 1) := by decide +kernel
theorem dX12_change_42 : decode cX12_change 42 = .ok (.baload, 1) := by decide +kernel
theorem dX12_change_43 : decode cX12_change 43 = .ok (.ifCond .eq 7, 3) := by decide +kernel
theorem dX12_change_46 : decode cX12_change 46 = .ok (.iconst 3, 1) := by decide +kernel
theorem dX12_change_47 : decode cX12_change 47 = .ok (.goto 4, 3) := by decide +kernel
theorem dX12_change_50 : decode cX12_change 50 = .ok (.iconst 0, 1) := by decide +kernel
theorem dX12_change_51 : decode cX12_change 51 = .ok (.putfield 166, 3) := by decide +kernel
theorem dX12_change_54 : decode cX12_change 54 = .ok (.aload_n 0, 1) := by decide +kernel
theorem dX12_change_55 : decode cX12_change 55 = .ok (.getfield 166, 3) := by decide +kernel
theorem dX12_change_58 : decode cX12_change 58 = .ok (.ifCond .le 5, 3) := by decide +kernel
theorem dX12_change_61 : decode cX12_change 61 = .ok (.iconst 0, 1) := by decide +kernel
theorem dX12_change_62 : decode cX12_change 62 = .ok (.ireturn, 1) := by decide +kernel
theorem dX12_change_63 : decode cX12_change 63 = .ok (.aload_n 0, 1) := by decide +kernel
theorem dX12_change_64 : decode cX12_change 64 = .ok (.getfield 77, 3) := by decide +kernel
theorem dX12_change_67 : decode cX12_change 67 = .ok (.iconst 3, 1) := by decide +kernel
theorem dX12_change_68 : decode cX12_change 68 = .ok (.iload_n 1, 1) := by decide +kernel
theorem dX12_change_69 : decode cX12_change 69 = .ok (.imul, 1) := by decide +kernel
theorem dX12_change_70 : decode cX12_change 70 = .ok (.iload_n 2, 1) := by decide +kernel
theorem dX12_change_71 : decode cX12_change 71 = .ok (.iadd, 1) := by decide +kernel
theorem dX12_change_72 : decode cX12_change 72 = .ok (.iaload, 1) := by decide +kernel
theorem dX12_change_73 : decode cX12_change 73 = .ok (.istore 4, 2) := by decide +kernel
theorem dX12_change_75 : decode cX12_change 75 = .ok (.aload_n 0, 1) := by decide +kernel
theorem dX12_change_76 : decode cX12_change 76 = .ok (.getfield 77, 3) := by decide +kernel
theorem dX12_change_79 : decode cX12_change 79 = .ok (.iconst 3, 1) := by decide +kernel
theorem dX12_change_80 : decode cX12_change 80 = .ok (.iload_n 1, 1) := by decide +kernel
theorem dX12_change_81 : decode cX12_change 81 = .ok (.imul, 1) := by decide +kernel
theorem dX12_change_82 : decode cX12_change 82 = .ok (.iload_n 2, 1) := by decide +kernel
theorem dX12_change_83 : decode cX12_change 83 = .ok (.iadd, 1) := by decide +kernel
theorem dX12_change_84 : decode cX12_change 84 = .ok (.iload_n 3, 1) := by decide +kernel
theorem dX12_change_85 : decode cX12_change 85 = .ok (.iastore, 1) := by decide +kernel
theorem dX12_change_86 : decode cX12_change 86 = .ok (.iload 4, 2) := by decide +kernel
theorem dX12_change_88 : decode cX12_change 88 = .ok (.ireturn, 1) := by decide +kernel
theorem dX12_destroy_0 : decode cX12_destroy 0 = .ok (.aload_n 0, 1) := by decide +kernel
theorem dX12_destroy_1 : decode cX12_destroy 1 = .ok (.aload_n 0, 1) := by decide +kernel
theorem dX12_destroy_2 : decode cX12_destroy 2 = .ok (.iload_n 1, 1) := by decide +kernel
theorem dX12_destroy_3 : decode cX12_destroy 3 = .ok (.invokevirtual 422, 3) := by decide +kernel
theorem dX12_destroy_6 : decode cX12_destroy 6 = .ok (.ifCond .eq 7, 3) := by decide +kernel
theorem dX12_destroy_9 : decode cX12_destroy 9 = .ok (.iconst 0, 1) := by decide +kernel
theorem dX12_destroy_10 : decode cX12_destroy 10 = .ok (.goto 4, 3) := by decide +kernel
theorem dX12_destroy_13 : decode cX12_destroy 13 = .ok (.iconst 1, 1) := by decide +kernel
theorem dX12_destroy_14 : decode cX12_destroy 14 = .ok (.putfield 166, 3) := by decide +kernel
theorem dX12_destroy_17 : decode cX12_destroy 17 = .ok (.aload_n 0, 1) := by decide +kernel
theorem dX12_destroy_18 : decode cX12_destroy 18 = .ok (.getfield 166, 3) := by decide +kernel
theorem dX12_destroy_21 : decode cX12_destroy 21 = .ok (.ifCond .le 5, 3) := by decide +kernel
theorem dX12_destroy_24 : decode cX12_destroy 24 = .ok (.iconst 0, 1) := by decide +kernel
theorem dX12_destroy_25 : decode cX12_destroy 25 = .ok (.ireturn, 1) := by decide +kernel
theorem dX12_destroy_26 : decode cX12_destroy 26 = .ok (.aload_n 0, 1) := by decide +kernel
theorem dX12_destroy_27 : decode cX12_destroy 27 = .ok (.getfield 80, 3) := by decide +kernel
theorem dX12_destroy_30 : decode cX12_destroy 30 = .ok (.iload_n 1, 1) := by decide +kernel
theorem dX12_destroy_31 : decode cX12_destroy 31 = .ok (.baload, 1) := by decide +kernel
theorem dX12_destroy_32 : decode cX12_destroy 32 = .ok (.istore_n 2, 1) := by decide +kernel
theorem dX12_destroy_33 : decode cX12_destroy 33 = .ok (.aload_n 0, 1) := by decide +kernel
theorem dX12_destroy_34 : decode cX12_destroy 34 = .ok (.getfield 80, 3) := by decide +kernel
theorem dX12_destroy_37 : decode cX12_destroy 37 = .ok (.iload_n 1, 1) := by decide +kernel
theorem dX12_destroy_38 : decode cX12_destroy 38 = .ok (.iconst 1, 1) := by decide +kernel
theorem dX12_destroy_39 : decode cX12_destroy 39 = .ok (.bastore, 1) := by decide +kernel
theorem dX12_destroy_40 : decode cX12_destroy 40 = .ok (.iload_n 2, 1) := by decide +kernel
theorem dX12_destroy_41 : decode cX12_destroy 41 = .ok (.ifCond .ne 7, 3) := by decide +kernel
theorem dX12_destroy_44 : decode cX12_destroy 44 = .ok (.iconst 1, 1) := by decide +kernel
theorem dX12_destroy_45 : decode cX12_destroy 45 = .ok (.goto 4, 3) := by decide +kernel
theorem dX12_destroy_48 : decode cX12_destroy 48 = .ok (.iconst 0, 1) := by decide +kernel
theorem dX12_destroy_49 : decode cX12_destroy 49 = .ok (.ireturn, 1) := by decide +kernel
theorem dX12_make_0 : decode cX12_make 0 = .ok (.aload_n 0, 1) := by decide +kernel
theorem dX12_make_1 : decode cX12_make 1 = .ok (.iload_n 1, 1) := by decide +kernel
theorem dX12_make_2 : decode cX12_make 2 = .ok (.invokestatic 318, 3) := by decide +kernel
theorem dX12_make_5 : decode cX12_make 5 = .ok (.ifCond .ne 7, 3) := by decide +kernel
theorem dX12_make_8 : decode cX12_make 8 = .ok (.iconst 1, 1) := by decide +kernel
theorem dX12_make_9 : decode cX12_make 9 = .ok (.goto 17, 3) := by decide +kernel
theorem dX12_make_12 : decode cX12_make 12 = .ok (.aload_n 0, 1) := by decide +kernel
theorem dX12_make_13 : decode cX12_make 13 = .ok (.getfield 315, 3) := by decide +kernel
theorem dX12_make_16 : decode cX12_make 16 = .ok (.bipush 60, 2) := by decide +kernel
theorem dX12_make_18 : decode cX12_make 18 = .ok (.if_icmp .ne 7, 3) := by decide +kernel
theorem dX12_make_21 : decode cX12_make 21 = .ok (.iconst 2, 1) := by decide +kernel
theorem dX12_make_22 : decode cX12_make 22 = .ok (.goto 4, 3) := by decide +kernel
theorem dX12_make_25 : decode cX12_make 25 = .ok (.iconst 0, 1) := by decide +kernel
theorem dX12_make_26 : decode cX12_make 26 = .ok (.putfield 166, 3) := by decide +kernel
theorem dX12_make_29 : decode cX12_make 29 = .ok (.aload_n 0, 1) := by decide +kernel
theorem dX12_make_30 : decode cX12_make 30 = .ok (.getfield 166, 3) := by decide +kernel
theorem dX12_make_33 : decode cX12_make 33 = .ok (.ifCond .le 5, 3) := by decide +kernel
theorem dX12_make_36 : decode cX12_make 36 = .ok (.iconst 0, 1) := by decide +kernel
theorem dX12_make_37 : decode cX12_make 37 = .ok (.ireturn, 1) := by decide +kernel
theorem dX12_make_38 : decode cX12_make 38 = .ok (.aload_n 0, 1) := by decide +kernel
theorem dX12_make_39 : decode cX12_make 39 = .ok (.getfield 74, 3) := by decide +kernel
theorem dX12_make_42 : decode cX12_make 42 = .ok (.aload_n 0, 1) := by decide +kernel
theorem dX12_make_43 : decode cX12_make 43 = .ok (.getfield 315, 3) := by decide +kernel
theorem dX12_make_46 : decode cX12_make 46 = .ok (.iload_n 1, 1) := by decide +kernel
theorem dX12_make_47 : decode cX12_make 47 = .ok (.iastore, 1) := by decide +kernel
theorem dX12_make_48 : decode cX12_make 48 = .ok (.aload_n 0, 1) := by decide +kernel
theorem dX12_make_49 : decode cX12_make 49 = .ok (.dup, 1) := by decide +kernel
theorem dX12_make_50 : decode cX12_make 50 = .ok (.getfield 315, 3) := by decide +kernel
theorem dX12_make_53 : decode cX12_make 53 = .ok (.iconst 1, 1) := by decide +kernel
theorem dX12_make_54 : decode cX12_make 54 = .ok (.iadd, 1) := by decide +kernel
theorem dX12_make_55 : decode cX12_make 55 = .ok (.putfield 315, 3) := by decide +kernel
theorem dX12_make_58 : decode cX12_make 58 = .ok (.aload_n 0, 1) := by decide +kernel
theorem dX12_make_59 : decode cX12_make 59 = .ok (.getfield 315, 3) := by decide +kernel
theorem dX12_make_62 : decode cX12_make 62 = .ok (.iconst 1, 1) := by decide +kernel
theorem dX12_make_63 : decode cX12_make 63 = .ok (.isub, 1) := by decide +kernel
theorem dX12_make_64 : decode cX12_make 64 = .ok (.ireturn, 1) := by decide +kernel
theorem dX12_read_0 : decode cX12_read 0 = .ok (.aload_n 0, 1) := by decide +kernel
theorem dX12_read_1 : decode cX12_read 1 = .ok (.aload_n 0, 1) := by decide +kernel
theorem dX12_read_2 : decode cX12_read 2 = .ok (.getfield 123, 3) := by decide +kernel
theorem dX12_read_5 : decode cX12_read 5 = .ok (.ifCond .lt 7, 3) := by decide +kernel
theorem dX12_read_8 : decode cX12_read 8 = .ok (.iconst 1, 1) := by decide +kernel
theorem dX12_read_9 : decode cX12_read 9 = .ok (.goto 4, 3) := by decide +kernel
theorem dX12_read_12 : decode cX12_read 12 = .ok (.iconst 0, 1) := by decide +kernel
theorem dX12_read_13 : decode cX12_read 13 = .ok (.putfield 166, 3) := by decide +kernel
theorem dX12_read_16 : decode cX12_read 16 = .ok (.aload_n 0, 1) := by decide +kernel
theorem dX12_read_17 : decode cX12_read 17 = .ok (.getfield 166, 3) := by decide +kernel
theorem dX12_read_20 : decode cX12_read 20 = .ok (.ifCond .le 5, 3) := by decide +kernel
theorem dX12_read_23 : decode cX12_read 23 = .ok (.iconst 0, 1) := by decide +kernel
theorem dX12_read_24 : decode cX12_read 24 = .ok (.ireturn, 1) := by decide +kernel
theorem dX12_read_25 : decode cX12_read 25 = .ok (.iconst 0, 1) := by decide +kernel
theorem dX12_read_26 : decode cX12_read 26 = .ok (.istore_n 1, 1) := by decide +kernel
theorem dX12_read_27 : decode cX12_read 27 = .ok (.iconst 0, 1) := by decide +kernel
theorem dX12_read_28 : decode cX12_read 28 = .ok (.istore_n 2, 1) := by decide +kernel
theorem dX12_read_29 : decode cX12_read 29 = .ok (.iconst 0, 1) := by decide +kernel
theorem dX12_read_30 : decode cX12_read 30 = .ok (.istore_n 3, 1) := by decide +kernel
theorem dX12_read_31 : decode cX12_read 31 = .ok (.iload_n 3, 1) := by decide +kernel
theorem dX12_read_32 : decode cX12_read 32 = .ok (.bipush 16, 2) := by decide +kernel
theorem dX12_read_34 : decode cX12_read 34 = .ok (.aload_n 0, 1) := by decide +kernel
theorem dX12_read_35 : decode cX12_read 35 = .ok (.getfield 312, 3) := by decide +kernel
theorem dX12_read_38 : decode cX12_read 38 = .ok (.imul, 1) := by decide +kernel
theorem dX12_read_39 : decode cX12_read 39 = .ok (.if_icmp .ge 135, 3) := by decide +kernel
theorem dX12_read_42 : decode cX12_read 42 = .ok (.aload_n 0, 1) := by decide +kernel
theorem dX12_read_43 : decode cX12_read 43 = .ok (.getfield 83, 3) := by decide +kernel
theorem dX12_read_46 : decode cX12_read 46 = .ok (.iload_n 3, 1) := by decide +kernel
theorem dX12_read_47 : decode cX12_read 47 = .ok (.iaload, 1) := by decide +kernel
theorem dX12_read_48 : decode cX12_read 48 = .ok (.iconst 1, 1) := by decide +kernel
theorem dX12_read_49 : decode cX12_read 49 = .ok (.isub, 1) := by decide +kernel
theorem dX12_read_50 : decode cX12_read 50 = .ok (.istore 4, 2) := by decide +kernel
theorem dX12_read_52 : decode cX12_read 52 = .ok (.iload 4, 2) := by decide +kernel
theorem dX12_read_54 : decode cX12_read 54 = .ok (.ifCond .lt 23, 3) := by decide +kernel
theorem dX12_read_57 : decode cX12_read 57 = .ok (.aload_n 0, 1) := by decide +kernel
theorem dX12_read_58 : decode cX12_read 58 = .ok (.getfield 80, 3) := by decide +kernel
theorem dX12_read_61 : decode cX12_read 61 = .ok (.iload 4, 2) := by decide +kernel
theorem dX12_read_63 : decode cX12_read 63 = .ok (.baload, 1) := by decide +kernel
theorem dX12_read_64 : decode cX12_read 64 = .ok (.ifCond .eq 13, 3) := by decide +kernel
theorem dX12_read_67 : decode cX12_read 67 = .ok (.aload_n 0, 1) := by decide +kernel
theorem dX12_read_68 : decode cX12_read 68 = .ok (.getfield 83, 3) := by decide +kernel
theorem dX12_read_71 : decode cX12_read 71 = .ok (.iload_n 3, 1) := by decide +kernel
theorem dX12_read_72 : decode cX12_read 72 = .ok (.iconst 0, 1) := by decide +kernel
theorem dX12_read_73 : decode cX12_read 73 = .ok (.iastore, 1) := by decide +kernel
theorem dX12_read_74 : decode cX12_read 74 = .ok (.iinc 1 1, 3) := by decide +kernel
theorem dX12_read_77 : decode cX12_read 77 = .ok (.iconst 0, 1) := by decide +kernel
theorem dX12_read_78 : decode cX12_read 78 = .ok (.istore 5, 2) := by decide +kernel
theorem dX12_read_80 : decode cX12_read 80 = .ok (.iload 5, 2) := by decide +kernel
theorem dX12_read_82 : decode cX12_read 82 = .ok (.iconst 3, 1) := by decide +kernel
theorem dX12_read_83 : decode cX12_read 83 = .ok (.if_icmp .ge 85, 3) := by decide +kernel
theorem dX12_read_86 : decode cX12_read 86 = .ok (.aload_n 0, 1) := by decide +kernel
theorem dX12_read_87 : decode cX12_read 87 = .ok (.getfield 83, 3) := by decide +kernel
theorem dX12_read_90 : decode cX12_read 90 = .ok (.iload_n 3, 1) := by decide +kernel
theorem dX12_read_91 : decode cX12_read 91 = .ok (.iaload, 1) := by decide +kernel
theorem dX12_read_92 : decode cX12_read 92 = .ok (.ifCond .le 76, 3) := by decide +kernel
theorem dX12_read_95 : decode cX12_read 95 = .ok (.aload_n 0, 1) := by decide +kernel
theorem dX12_read_96 : decode cX12_read 96 = .ok (.aload_n 0, 1) := by decide +kernel
theorem dX12_read_97 : decode cX12_read 97 = .ok (.getfield 62, 3) := by decide +kernel
theorem dX12_read_100 : decode cX12_read 100 = .ok (.iload_n 3, 1) := by decide +kernel
theorem dX12_read_101 : decode cX12_read 101 = .ok (.bipush 16, 2) := by decide +kernel
theorem dX12_read_103 : decode cX12_read 103 = .ok (.idiv, 1) := by decide +kernel
theorem dX12_read_104 : decode cX12_read 104 = .ok (.iaload, 1) := by decide +kernel
theorem dX12_read_105 : decode cX12_read 105 = .ok (.iload 5, 2) := by decide +kernel
theorem dX12_read_107 : decode cX12_read 107 = .ok (.iconst 4, 1) := by decide +kernel
theorem dX12_read_108 : decode cX12_read 108 = .ok (.invokevirtual 330, 3) := by decide +kernel
theorem dX12_read_111 : decode cX12_read 111 = .ok (.ifCond .ne 51, 3) := by decide +kernel
theorem dX12_read_114 : decode cX12_read 114 = .ok (.aload_n 0, 1) := by decide +kernel
theorem dX12_read_115 : decode cX12_read 115 = .ok (.getfield 77, 3) := by decide +kernel
theorem dX12_read_118 : decode cX12_read 118 = .ok (.iconst 3, 1) := by decide +kernel
theorem dX12_read_119 : decode cX12_read 119 = .ok (.iload 4, 2) := by decide +kernel
theorem dX12_read_121 : decode cX12_read 121 = .ok (.imul, 1) := by decide +kernel
theorem dX12_read_122 : decode cX12_read 122 = .ok (.iload 5, 2) := by decide +kernel
theorem dX12_read_124 : decode cX12_read 124 = .ok (.iadd, 1) := by decide +kernel
theorem dX12_read_125 : decode cX12_read 125 = .ok (.iaload, 1) := by decide +kernel
theorem dX12_read_126 : decode cX12_read 126 = .ok (.aload_n 0, 1) := by decide +kernel
theorem dX12_read_127 : decode cX12_read 127 = .ok (.getfield 86, 3) := by decide +kernel
theorem dX12_read_130 : decode cX12_read 130 = .ok (.iconst 3, 1) := by decide +kernel
theorem dX12_read_131 : decode cX12_read 131 = .ok (.iload_n 3, 1) := by decide +kernel
theorem dX12_read_132 : decode cX12_read 132 = .ok (.imul, 1) := by decide +kernel
theorem dX12_read_133 : decode cX12_read 133 = .ok (.iload 5, 2) := by decide +kernel
theorem dX12_read_135 : decode cX12_read 135 = .ok (.iadd, 1) := by decide +kernel
theorem dX12_read_136 : decode cX12_read 136 = .ok (.iaload, 1) := by decide +kernel
theorem dX12_read_137 : decode cX12_read 137 = .ok (.if_icmp .eq 25, 3) := by decide +kernel
theorem dX12_read_140 : decode cX12_read 140 = .ok (.iinc 2 1, 3) := by decide +kernel
theorem dX12_read_143 : decode cX12_read 143 = .ok (.aload_n 0, 1) := by decide +kernel
theorem dX12_read_144 : decode cX12_read 144 = .ok (.iload_n 3, 1) := by decide +kernel
theorem dX12_read_145 : decode cX12_read 145 = .ok (.iload 5, 2) := by decide +kernel
theorem dX12_read_147 : decode cX12_read 147 = .ok (.aload_n 0, 1) := by decide +kernel
theorem dX12_read_148 : decode cX12_read 148 = .ok (.getfield 77, 3) := by decide +kernel
theorem dX12_read_151 : decode cX12_read 151 = .ok (.iconst 3, 1) := by decide +kernel
theorem dX12_read_152 : decode cX12_read 152 = .ok (.iload 4, 2) := by decide +kernel
theorem dX12_read_154 : decode cX12_read 154 = .ok (.imul, 1) := by decide +kernel
theorem dX12_read_155 : decode cX12_read 155 = .ok (.iload 5, 2) := by decide +kernel
theorem dX12_read_157 : decode cX12_read 157 = .ok (.iadd, 1) := by decide +kernel
theorem dX12_read_158 : decode cX12_read 158 = .ok (.iaload, 1) := by decide +kernel
theorem dX12_read_159 : decode cX12_read 159 = .ok (.invokevirtual 425, 3) := by decide +kernel
theorem dX12_read_162 : decode cX12_read 162 = .ok (.iinc 5 1, 3) := by decide +kernel
theorem dX12_read_165 : decode cX12_read 165 = .ok (.goto (-85), 3) := by decide +kernel
theorem dX12_read_168 : decode cX12_read 168 = .ok (.iinc 3 1, 3) := by decide +kernel
theorem dX12_read_171 : decode cX12_read 171 = .ok (.goto (-140), 3) := by decide +kernel
theorem dX12_read_174 : decode cX12_read 174 = .ok (.aload_n 0, 1) := by decide +kernel
theorem dX12_read_175 : decode cX12_read 175 = .ok (.dup, 1) := by decide +kernel
theorem dX12_read_176 : decode cX12_read 176 = .ok (.getfield 343, 3) := by decide +kernel
theorem dX12_read_179 : decode cX12_read 179 = .ok (.iload_n 1, 1) := by decide +kernel
theorem dX12_read_180 : decode cX12_read 180 = .ok (.iload_n 2, 1) := by decide +kernel
theorem dX12_read_181 : decode cX12_read 181 = .ok (.iadd, 1) := by decide +kernel
theorem dX12_read_182 : decode cX12_read 182 = .ok (.ifCond .le 7, 3) := by decide +kernel
theorem dX12_read_185 : decode cX12_read 185 = .ok (.iconst 1, 1) := by decide +kernel
theorem dX12_read_186 : decode cX12_read 186 = .ok (.goto 4, 3) := by decide +kernel
theorem dX12_read_189 : decode cX12_read 189 = .ok (.iconst 0, 1) := by decide +kernel
theorem dX12_read_190 : decode cX12_read 190 = .ok (.iadd, 1) := by decide +kernel
theorem dX12_read_191 : decode cX12_read 191 = .ok (.putfield 343, 3) := by decide +kernel
theorem dX12_read_194 : decode cX12_read 194 = .ok (.bipush 100, 2) := by decide +kernel
theorem dX12_read_196 : decode cX12_read 196 = .ok (.iload_n 1, 1) := by decide +kernel
theorem dX12_read_197 : decode cX12_read 197 = .ok (.imul, 1) := by decide +kernel
theorem dX12_read_198 : decode cX12_read 198 = .ok (.iload_n 2, 1) := by decide +kernel
theorem dX12_read_199 : decode cX12_read 199 = .ok (.iadd, 1) := by decide +kernel
theorem dX12_read_200 : decode cX12_read 200 = .ok (.ireturn, 1) := by decide +kernel
theorem dX12_drifts_0 : decode cX12_drifts 0 = .ok (.aload_n 0, 1) := by decide +kernel
theorem dX12_drifts_1 : decode cX12_drifts 1 = .ok (.getfield 86, 3) := by decide +kernel
theorem dX12_drifts_4 : decode cX12_drifts 4 = .ok (.iconst 3, 1) := by decide +kernel
theorem dX12_drifts_5 : decode cX12_drifts 5 = .ok (.iload_n 1, 1) := by decide +kernel
theorem dX12_drifts_6 : decode cX12_drifts 6 = .ok (.imul, 1) := by decide +kernel
theorem dX12_drifts_7 : decode cX12_drifts 7 = .ok (.iload_n 2, 1) := by decide +kernel
theorem dX12_drifts_8 : decode cX12_drifts 8 = .ok (.iadd, 1) := by decide +kernel
theorem dX12_drifts_9 : decode cX12_drifts 9 = .ok (.iload_n 3, 1) := by decide +kernel
theorem dX12_drifts_10 : decode cX12_drifts 10 = .ok (.iastore, 1) := by decide +kernel
theorem dX12_drifts_11 : decode cX12_drifts 11 = .ok (.aload_n 0, 1) := by decide +kernel
theorem dX12_drifts_12 : decode cX12_drifts 12 = .ok (.invokevirtual 364, 3) := by decide +kernel
theorem dX12_drifts_15 : decode cX12_drifts 15 = .ok (.aload_n 0, 1) := by decide +kernel
theorem dX12_drifts_16 : decode cX12_drifts 16 = .ok (.iload_n 1, 1) := by decide +kernel
theorem dX12_drifts_17 : decode cX12_drifts 17 = .ok (.iload_n 2, 1) := by decide +kernel
theorem dX12_drifts_18 : decode cX12_drifts 18 = .ok (.invokevirtual 346, 3) := by decide +kernel
theorem dX12_drifts_21 : decode cX12_drifts 21 = .ok (.istore 4, 2) := by decide +kernel
theorem dX12_drifts_23 : decode cX12_drifts 23 = .ok (.aload_n 0, 1) := by decide +kernel
theorem dX12_drifts_24 : decode cX12_drifts 24 = .ok (.getfield 56, 3) := by decide +kernel
theorem dX12_drifts_27 : decode cX12_drifts 27 = .ok (.aload_n 0, 1) := by decide +kernel
theorem dX12_drifts_28 : decode cX12_drifts 28 = .ok (.getfield 62, 3) := by decide +kernel
theorem dX12_drifts_31 : decode cX12_drifts 31 = .ok (.iload_n 1, 1) := by decide +kernel
theorem dX12_drifts_32 : decode cX12_drifts 32 = .ok (.bipush 16, 2) := by decide +kernel
theorem dX12_drifts_34 : decode cX12_drifts 34 = .ok (.idiv, 1) := by decide +kernel
theorem dX12_drifts_35 : decode cX12_drifts 35 = .ok (.iaload, 1) := by decide +kernel
theorem dX12_drifts_36 : decode cX12_drifts 36 = .ok (.baload, 1) := by decide +kernel
theorem dX12_drifts_37 : decode cX12_drifts 37 = .ok (.ifCond .eq 89, 3) := by decide +kernel
theorem dX12_drifts_40 : decode cX12_drifts 40 = .ok (.iload 4, 2) := by decide +kernel
theorem dX12_drifts_42 : decode cX12_drifts 42 = .ok (.ifCond .lt 15, 3) := by decide +kernel
theorem dX12_drifts_45 : decode cX12_drifts 45 = .ok (.aload_n 0, 1) := by decide +kernel
theorem dX12_drifts_46 : decode cX12_drifts 46 = .ok (.iload_n 1, 1) := by decide +kernel
theorem dX12_drifts_47 : decode cX12_drifts 47 = .ok (.invokevirtual 349, 3) := by decide +kernel
theorem dX12_drifts_50 : decode cX12_drifts 50 = .ok (.ifCond .eq 7, 3) := by decide +kernel
theorem dX12_drifts_53 : decode cX12_drifts 53 = .ok (.iconst 1, 1) := by decide +kernel
theorem dX12_drifts_54 : decode cX12_drifts 54 = .ok (.goto 4, 3) := by decide +kernel
theorem dX12_drifts_57 : decode cX12_drifts 57 = .ok (.iconst 0, 1) := by decide +kernel
theorem dX12_drifts_58 : decode cX12_drifts 58 = .ok (.istore 5, 2) := by decide +kernel
theorem dX12_drifts_60 : decode cX12_drifts 60 = .ok (.aload_n 0, 1) := by decide +kernel
theorem dX12_drifts_61 : decode cX12_drifts 61 = .ok (.getfield 92, 3) := by decide +kernel
theorem dX12_drifts_64 : decode cX12_drifts 64 = .ok (.iload_n 1, 1) := by decide +kernel
theorem dX12_drifts_65 : decode cX12_drifts 65 = .ok (.iload 5, 2) := by decide +kernel
theorem dX12_drifts_67 : decode cX12_drifts 67 = .ok (.ifCond .eq 16, 3) := by decide +kernel
theorem dX12_drifts_70 : decode cX12_drifts 70 = .ok (.aload_n 0, 1) := by decide +kernel
theorem dX12_drifts_71 : decode cX12_drifts 71 = .ok (.getfield 92, 3) := by decide +kernel
theorem dX12_drifts_74 : decode cX12_drifts 74 = .ok (.iload_n 1, 1) := by decide +kernel
theorem dX12_drifts_75 : decode cX12_drifts 75 = .ok (.iaload, 1) := by decide +kernel
theorem dX12_drifts_76 : decode cX12_drifts 76 = .ok (.iconst 1, 1) := by decide +kernel
theorem dX12_drifts_77 : decode cX12_drifts 77 = .ok (.iload_n 2, 1) := by decide +kernel
theorem dX12_drifts_78 : decode cX12_drifts 78 = .ok (.ishl, 1) := by decide +kernel
theorem dX12_drifts_79 : decode cX12_drifts 79 = .ok (.ior, 1) := by decide +kernel
theorem dX12_drifts_80 : decode cX12_drifts 80 = .ok (.goto 15, 3) := by decide +kernel
theorem dX12_drifts_83 : decode cX12_drifts 83 = .ok (.aload_n 0, 1) := by decide +kernel
theorem dX12_drifts_84 : decode cX12_drifts 84 = .ok (.getfield 92, 3) := by decide +kernel
theorem dX12_drifts_87 : decode cX12_drifts 87 = .ok (.iload_n 1, 1) := by decide +kernel
theorem dX12_drifts_88 : decode cX12_drifts 88 = .ok (.iaload, 1) := by decide +kernel
theorem dX12_drifts_89 : decode cX12_drifts 89 = .ok (.iconst 1, 1) := by decide +kernel
theorem dX12_drifts_90 : decode cX12_drifts 90 = .ok (.iload_n 2, 1) := by decide +kernel
theorem dX12_drifts_91 : decode cX12_drifts 91 = .ok (.ishl, 1) := by decide +kernel
theorem dX12_drifts_92 : decode cX12_drifts 92 = .ok (.iconst (-1), 1) := by decide +kernel
theorem dX12_drifts_93 : decode cX12_drifts 93 = .ok (.ixor, 1) := by decide +kernel
theorem dX12_drifts_94 : decode cX12_drifts 94 = .ok (.iand, 1) := by decide +kernel
theorem dX12_drifts_95 : decode cX12_drifts 95 = .ok (.iastore, 1) := by decide +kernel
theorem dX12_drifts_96 : decode cX12_drifts 96 = .ok (.aload_n 0, 1) := by decide +kernel
theorem dX12_drifts_97 : decode cX12_drifts 97 = .ok (.getfield 95, 3) := by decide +kernel
theorem dX12_drifts_100 : decode cX12_drifts 100 = .ok (.iconst 3, 1) := by decide +kernel
theorem dX12_drifts_101 : decode cX12_drifts 101 = .ok (.iload_n 1, 1) := by decide +kernel
theorem dX12_drifts_102 : decode cX12_drifts 102 = .ok (.imul, 1) := by decide +kernel
theorem dX12_drifts_103 : decode cX12_drifts 103 = .ok (.iload_n 2, 1) := by decide +kernel
theorem dX12_drifts_104 : decode cX12_drifts 104 = .ok (.iadd, 1) := by decide +kernel
theorem dX12_drifts_105 : decode cX12_drifts 105 = .ok (.iload 5, 2) := by decide +kernel
theorem dX12_drifts_107 : decode cX12_drifts 107 = .ok (.ifCond .eq 8, 3) := by decide +kernel
theorem dX12_drifts_110 : decode cX12_drifts 110 = .ok (.iload 4, 2) := by decide +kernel
theorem dX12_drifts_112 : decode cX12_drifts 112 = .ok (.goto 13, 3) := by decide +kernel
theorem dX12_drifts_115 : decode cX12_drifts 115 = .ok (.aload_n 0, 1) := by decide +kernel
theorem dX12_drifts_116 : decode cX12_drifts 116 = .ok (.getfield 95, 3) := by decide +kernel
theorem dX12_drifts_119 : decode cX12_drifts 119 = .ok (.iconst 3, 1) := by decide +kernel
theorem dX12_drifts_120 : decode cX12_drifts 120 = .ok (.iload_n 1, 1) := by decide +kernel
theorem dX12_drifts_121 : decode cX12_drifts 121 = .ok (.imul, 1) := by decide +kernel
theorem dX12_drifts_122 : decode cX12_drifts 122 = .ok (.iload_n 2, 1) := by decide +kernel
theorem dX12_drifts_123 : decode cX12_drifts 123 = .ok (.iadd, 1) := by decide +kernel
theorem dX12_drifts_124 : decode cX12_drifts 124 = .ok (.iaload, 1) := by decide +kernel
theorem dX12_drifts_125 : decode cX12_drifts 125 = .ok (.iastore, 1) := by decide +kernel
theorem dX12_drifts_126 : decode cX12_drifts 126 = .ok (.return_, 1) := by decide +kernel
theorem dX12_move_0 : decode cX12_move 0 = .ok (.aload_n 0, 1) := by decide +kernel
theorem dX12_move_1 : decode cX12_move 1 = .ok (.aload_n 0, 1) := by decide +kernel
theorem dX12_move_2 : decode cX12_move 2 = .ok (.iload_n 1, 1) := by decide +kernel
theorem dX12_move_3 : decode cX12_move 3 = .ok (.invokevirtual 374, 3) := by decide +kernel
theorem dX12_move_6 : decode cX12_move 6 = .ok (.ifCond .eq 15, 3) := by decide +kernel
theorem dX12_move_9 : decode cX12_move 9 = .ok (.aload_n 0, 1) := by decide +kernel
theorem dX12_move_10 : decode cX12_move 10 = .ok (.iload_n 2, 1) := by decide +kernel
theorem dX12_move_11 : decode cX12_move 11 = .ok (.invokevirtual 374, 3) := by decide +kernel
theorem dX12_move_14 : decode cX12_move 14 = .ok (.ifCond .eq 7, 3) := by decide +kernel
theorem dX12_move_17 : decode cX12_move 17 = .ok (.iconst 0, 1) := by decide +kernel
theorem dX12_move_18 : decode cX12_move 18 = .ok (.goto 4, 3) := by decide +kernel
theorem dX12_move_21 : decode cX12_move 21 = .ok (.iconst 1, 1) := by decide +kernel
theorem dX12_move_22 : decode cX12_move 22 = .ok (.putfield 166, 3) := by decide +kernel
theorem dX12_move_25 : decode cX12_move 25 = .ok (.aload_n 0, 1) := by decide +kernel
theorem dX12_move_26 : decode cX12_move 26 = .ok (.getfield 166, 3) := by decide +kernel
theorem dX12_move_29 : decode cX12_move 29 = .ok (.ifCond .le 5, 3) := by decide +kernel
theorem dX12_move_32 : decode cX12_move 32 = .ok (.iconst 0, 1) := by decide +kernel
theorem dX12_move_33 : decode cX12_move 33 = .ok (.ireturn, 1) := by decide +kernel
theorem dX12_move_34 : decode cX12_move 34 = .ok (.aload_n 0, 1) := by decide +kernel
theorem dX12_move_35 : decode cX12_move 35 = .ok (.aload_n 0, 1) := by decide +kernel
theorem dX12_move_36 : decode cX12_move 36 = .ok (.getfield 123, 3) := by decide +kernel
theorem dX12_move_39 : decode cX12_move 39 = .ok (.ifCond .ge 42, 3) := by decide +kernel
theorem dX12_move_42 : decode cX12_move 42 = .ok (.aload_n 0, 1) := by decide +kernel
theorem dX12_move_43 : decode cX12_move 43 = .ok (.getfield 83, 3) := by decide +kernel
theorem dX12_move_46 : decode cX12_move 46 = .ok (.iload_n 1, 1) := by decide +kernel
theorem dX12_move_47 : decode cX12_move 47 = .ok (.iaload, 1) := by decide +kernel
theorem dX12_move_48 : decode cX12_move 48 = .ok (.ifCond .eq 33, 3) := by decide +kernel
theorem dX12_move_51 : decode cX12_move 51 = .ok (.aload_n 0, 1) := by decide +kernel
theorem dX12_move_52 : decode cX12_move 52 = .ok (.getfield 83, 3) := by decide +kernel
theorem dX12_move_55 : decode cX12_move 55 = .ok (.iload_n 2, 1) := by decide +kernel
theorem dX12_move_56 : decode cX12_move 56 = .ok (.iaload, 1) := by decide +kernel
theorem dX12_move_57 : decode cX12_move 57 = .ok (.ifCond .gt 24, 3) := by decide +kernel
theorem dX12_move_60 : decode cX12_move 60 = .ok (.aload_n 0, 1) := by decide +kernel
theorem dX12_move_61 : decode cX12_move 61 = .ok (.getfield 62, 3) := by decide +kernel
theorem dX12_move_64 : decode cX12_move 64 = .ok (.iload_n 1, 1) := by decide +kernel
theorem dX12_move_65 : decode cX12_move 65 = .ok (.bipush 16, 2) := by decide +kernel
theorem dX12_move_67 : decode cX12_move 67 = .ok (.idiv, 1) := by decide +kernel
theorem dX12_move_68 : decode cX12_move 68 = .ok (.iaload, 1) := by decide +kernel
theorem dX12_move_69 : decode cX12_move 69 = .ok (.aload_n 0, 1) := by decide +kernel
theorem dX12_move_70 : decode cX12_move 70 = .ok (.getfield 62, 3) := by decide +kernel
theorem dX12_move_73 : decode cX12_move 73 = .ok (.iload_n 2, 1) := by decide +kernel
theorem dX12_move_74 : decode cX12_move 74 = .ok (.bipush 16, 2) := by decide +kernel
theorem dX12_move_76 : decode cX12_move 76 = .ok (.idiv, 1) := by decide +kernel
theorem dX12_move_77 : decode cX12_move 77 = .ok (.iaload, 1) := by decide +kernel
theorem dX12_move_78 : decode cX12_move 78 = .ok (.if_icmp .eq 7, 3) := by decide +kernel
theorem dX12_move_81 : decode cX12_move 81 = .ok (.iconst 2, 1) := by decide +kernel
theorem dX12_move_82 : decode cX12_move 82 = .ok (.goto 4, 3) := by decide +kernel
theorem dX12_move_85 : decode cX12_move 85 = .ok (.iconst 0, 1) := by decide +kernel
theorem dX12_move_86 : decode cX12_move 86 = .ok (.putfield 166, 3) := by decide +kernel
theorem dX12_move_89 : decode cX12_move 89 = .ok (.aload_n 0, 1) := by decide +kernel
theorem dX12_move_90 : decode cX12_move 90 = .ok (.getfield 166, 3) := by decide +kernel
theorem dX12_move_93 : decode cX12_move 93 = .ok (.ifCond .le 5, 3) := by decide +kernel
theorem dX12_move_96 : decode cX12_move 96 = .ok (.iconst 0, 1) := by decide +kernel
theorem dX12_move_97 : decode cX12_move 97 = .ok (.ireturn, 1) := by decide +kernel
theorem dX12_move_98 : decode cX12_move 98 = .ok (.aload_n 0, 1) := by decide +kernel
theorem dX12_move_99 : decode cX12_move 99 = .ok (.getfield 83, 3) := by decide +kernel
theorem dX12_move_102 : decode cX12_move 102 = .ok (.iload_n 2, 1) := by decide +kernel
theorem dX12_move_103 : decode cX12_move 103 = .ok (.aload_n 0, 1) := by decide +kernel
theorem dX12_move_104 : decode cX12_move 104 = .ok (.getfield 83, 3) := by decide +kernel
theorem dX12_move_107 : decode cX12_move 107 = .ok (.iload_n 1, 1) := by decide +kernel
theorem dX12_move_108 : decode cX12_move 108 = .ok (.iaload, 1) := by decide +kernel
theorem dX12_move_109 : decode cX12_move 109 = .ok (.iastore, 1) := by decide +kernel
theorem dX12_move_110 : decode cX12_move 110 = .ok (.aload_n 0, 1) := by decide +kernel
theorem dX12_move_111 : decode cX12_move 111 = .ok (.getfield 89, 3) := by decide +kernel
theorem dX12_move_114 : decode cX12_move 114 = .ok (.iload_n 2, 1) := by decide +kernel
theorem dX12_move_115 : decode cX12_move 115 = .ok (.aload_n 0, 1) := by decide +kernel
theorem dX12_move_116 : decode cX12_move 116 = .ok (.getfield 89, 3) := by decide +kernel
theorem dX12_move_119 : decode cX12_move 119 = .ok (.iload_n 1, 1) := by decide +kernel
theorem dX12_move_120 : decode cX12_move 120 = .ok (.baload, 1) := by decide +kernel
theorem dX12_move_121 : decode cX12_move 121 = .ok (.bastore, 1) := by decide +kernel
theorem dX12_move_122 : decode cX12_move 122 = .ok (.aload_n 0, 1) := by decide +kernel
theorem dX12_move_123 : decode cX12_move 123 = .ok (.getfield 92, 3) := by decide +kernel
theorem dX12_move_126 : decode cX12_move 126 = .ok (.iload_n 2, 1) := by decide +kernel
theorem dX12_move_127 : decode cX12_move 127 = .ok (.aload_n 0, 1) := by decide +kernel
theorem dX12_move_128 : decode cX12_move 128 = .ok (.getfield 92, 3) := by decide +kernel
theorem dX12_move_131 : decode cX12_move 131 = .ok (.iload_n 1, 1) := by decide +kernel
theorem dX12_move_132 : decode cX12_move 132 = .ok (.iaload, 1) := by decide +kernel
theorem dX12_move_133 : decode cX12_move 133 = .ok (.iastore, 1) := by decide +kernel
theorem dX12_move_134 : decode cX12_move 134 = .ok (.iconst 0, 1) := by decide +kernel
theorem dX12_move_135 : decode cX12_move 135 = .ok (.istore_n 3, 1) := by decide +kernel
theorem dX12_move_136 : decode cX12_move 136 = .ok (.iload_n 3, 1) := by decide +kernel
theorem dX12_move_137 : decode cX12_move 137 = .ok (.iconst 3, 1) := by decide +kernel
theorem dX12_move_138 : decode cX12_move 138 = .ok (.if_icmp .ge 49, 3) := by decide +kernel
theorem dX12_move_141 : decode cX12_move 141 = .ok (.aload_n 0, 1) := by decide +kernel
theorem dX12_move_142 : decode cX12_move 142 = .ok (.getfield 86, 3) := by decide +kernel
theorem dX12_move_145 : decode cX12_move 145 = .ok (.iconst 3, 1) := by decide +kernel
theorem dX12_move_146 : decode cX12_move 146 = .ok (.iload_n 2, 1) := by decide +kernel
theorem dX12_move_147 : decode cX12_move 147 = .ok (.imul, 1) := by decide +kernel
theorem dX12_move_148 : decode cX12_move 148 = .ok (.iload_n 3, 1) := by decide +kernel
theorem dX12_move_149 : decode cX12_move 149 = .ok (.iadd, 1) := by decide +kernel
theorem dX12_move_150 : decode cX12_move 150 = .ok (.aload_n 0, 1) := by decide +kernel
theorem dX12_move_151 : decode cX12_move 151 = .ok (.getfield 86, 3) := by decide +kernel
theorem dX12_move_154 : decode cX12_move 154 = .ok (.iconst 3, 1) := by decide +kernel
theorem dX12_move_155 : decode cX12_move 155 = .ok (.iload_n 1, 1) := by decide +kernel
theorem dX12_move_156 : decode cX12_move 156 = .ok (.imul, 1) := by decide +kernel
theorem dX12_move_157 : decode cX12_move 157 = .ok (.iload_n 3, 1) := by decide +kernel
theorem dX12_move_158 : decode cX12_move 158 = .ok (.iadd, 1) := by decide +kernel
theorem dX12_move_159 : decode cX12_move 159 = .ok (.iaload, 1) := by decide +kernel
theorem dX12_move_160 : decode cX12_move 160 = .ok (.iastore, 1) := by decide +kernel
theorem dX12_move_161 : decode cX12_move 161 = .ok (.aload_n 0, 1) := by decide +kernel
theorem dX12_move_162 : decode cX12_move 162 = .ok (.getfield 95, 3) := by decide +kernel
theorem dX12_move_165 : decode cX12_move 165 = .ok (.iconst 3, 1) := by decide +kernel
theorem dX12_move_166 : decode cX12_move 166 = .ok (.iload_n 2, 1) := by decide +kernel
theorem dX12_move_167 : decode cX12_move 167 = .ok (.imul, 1) := by decide +kernel
theorem dX12_move_168 : decode cX12_move 168 = .ok (.iload_n 3, 1) := by decide +kernel
theorem dX12_move_169 : decode cX12_move 169 = .ok (.iadd, 1) := by decide +kernel
theorem dX12_move_170 : decode cX12_move 170 = .ok (.aload_n 0, 1) := by decide +kernel
theorem dX12_move_171 : decode cX12_move 171 = .ok (.getfield 95, 3) := by decide +kernel
theorem dX12_move_174 : decode cX12_move 174 = .ok (.iconst 3, 1) := by decide +kernel
theorem dX12_move_175 : decode cX12_move 175 = .ok (.iload_n 1, 1) := by decide +kernel
theorem dX12_move_176 : decode cX12_move 176 = .ok (.imul, 1) := by decide +kernel
theorem dX12_move_177 : decode cX12_move 177 = .ok (.iload_n 3, 1) := by decide +kernel
theorem dX12_move_178 : decode cX12_move 178 = .ok (.iadd, 1) := by decide +kernel
theorem dX12_move_179 : decode cX12_move 179 = .ok (.iaload, 1) := by decide +kernel
theorem dX12_move_180 : decode cX12_move 180 = .ok (.iastore, 1) := by decide +kernel
theorem dX12_move_181 : decode cX12_move 181 = .ok (.iinc 3 1, 3) := by decide +kernel
theorem dX12_move_184 : decode cX12_move 184 = .ok (.goto (-48), 3) := by decide +kernel
theorem dX12_move_187 : decode cX12_move 187 = .ok (.aload_n 0, 1) := by decide +kernel
theorem dX12_move_188 : decode cX12_move 188 = .ok (.getfield 83, 3) := by decide +kernel
theorem dX12_move_191 : decode cX12_move 191 = .ok (.iload_n 1, 1) := by decide +kernel
theorem dX12_move_192 : decode cX12_move 192 = .ok (.iconst 0, 1) := by decide +kernel
theorem dX12_move_193 : decode cX12_move 193 = .ok (.iastore, 1) := by decide +kernel
theorem dX12_move_194 : decode cX12_move 194 = .ok (.aload_n 0, 1) := by decide +kernel
theorem dX12_move_195 : decode cX12_move 195 = .ok (.dup, 1) := by decide +kernel
theorem dX12_move_196 : decode cX12_move 196 = .ok (.getfield 343, 3) := by decide +kernel
theorem dX12_move_199 : decode cX12_move 199 = .ok (.iconst 1, 1) := by decide +kernel
theorem dX12_move_200 : decode cX12_move 200 = .ok (.iadd, 1) := by decide +kernel
theorem dX12_move_201 : decode cX12_move 201 = .ok (.putfield 343, 3) := by decide +kernel
theorem dX12_move_204 : decode cX12_move 204 = .ok (.aload_n 0, 1) := by decide +kernel
theorem dX12_move_205 : decode cX12_move 205 = .ok (.getfield 343, 3) := by decide +kernel
theorem dX12_move_208 : decode cX12_move 208 = .ok (.ireturn, 1) := by decide +kernel
theorem dX12_take_0 : decode cX12_take 0 = .ok (.aload_n 0, 1) := by decide +kernel
theorem dX12_take_1 : decode cX12_take 1 = .ok (.aload_n 0, 1) := by decide +kernel
theorem dX12_take_2 : decode cX12_take 2 = .ok (.iload_n 1, 1) := by decide +kernel
theorem dX12_take_3 : decode cX12_take 3 = .ok (.invokevirtual 374, 3) := by decide +kernel
theorem dX12_take_6 : decode cX12_take 6 = .ok (.ifCond .eq 15, 3) := by decide +kernel
theorem dX12_take_9 : decode cX12_take 9 = .ok (.aload_n 0, 1) := by decide +kernel
theorem dX12_take_10 : decode cX12_take 10 = .ok (.iload_n 2, 1) := by decide +kernel
theorem dX12_take_11 : decode cX12_take 11 = .ok (.invokevirtual 422, 3) := by decide +kernel
theorem dX12_take_14 : decode cX12_take 14 = .ok (.ifCond .eq 7, 3) := by decide +kernel
theorem dX12_take_17 : decode cX12_take 17 = .ok (.iconst 0, 1) := by decide +kernel
theorem dX12_take_18 : decode cX12_take 18 = .ok (.goto 4, 3) := by decide +kernel
theorem dX12_take_21 : decode cX12_take 21 = .ok (.iconst 1, 1) := by decide +kernel
theorem dX12_take_22 : decode cX12_take 22 = .ok (.putfield 166, 3) := by decide +kernel
theorem dX12_take_25 : decode cX12_take 25 = .ok (.aload_n 0, 1) := by decide +kernel
theorem dX12_take_26 : decode cX12_take 26 = .ok (.getfield 166, 3) := by decide +kernel
theorem dX12_take_29 : decode cX12_take 29 = .ok (.ifCond .le 5, 3) := by decide +kernel
theorem dX12_take_32 : decode cX12_take 32 = .ok (.iconst 0, 1) := by decide +kernel
theorem dX12_take_33 : decode cX12_take 33 = .ok (.ireturn, 1) := by decide +kernel
theorem dX12_take_34 : decode cX12_take 34 = .ok (.iconst 0, 1) := by decide +kernel
theorem dX12_take_35 : decode cX12_take 35 = .ok (.istore_n 3, 1) := by decide +kernel
theorem dX12_take_36 : decode cX12_take 36 = .ok (.iconst 0, 1) := by decide +kernel
theorem dX12_take_37 : decode cX12_take 37 = .ok (.istore 4, 2) := by decide +kernel
theorem dX12_take_39 : decode cX12_take 39 = .ok (.iload 4, 2) := by decide +kernel
theorem dX12_take_41 : decode cX12_take 41 = .ok (.bipush 64, 2) := by decide +kernel
theorem dX12_take_43 : decode cX12_take 43 = .ok (.if_icmp .ge 30, 3) := by decide +kernel
theorem dX12_take_46 : decode cX12_take 46 = .ok (.iload_n 3, 1) := by decide +kernel
theorem dX12_take_47 : decode cX12_take 47 = .ok (.aload_n 0, 1) := by decide +kernel
theorem dX12_take_48 : decode cX12_take 48 = .ok (.getfield 83, 3) := by decide +kernel
theorem dX12_take_51 : decode cX12_take 51 = .ok (.iload 4, 2) := by decide +kernel
theorem dX12_take_53 : decode cX12_take 53 = .ok (.iaload, 1) := by decide +kernel
theorem dX12_take_54 : decode cX12_take 54 = .ok (.iload_n 2, 1) := by decide +kernel
theorem dX12_take_55 : decode cX12_take 55 = .ok (.iconst 1, 1) := by decide +kernel
theorem dX12_take_56 : decode cX12_take 56 = .ok (.iadd, 1) := by decide +kernel
theorem dX12_take_57 : decode cX12_take 57 = .ok (.if_icmp .ne 7, 3) := by decide +kernel
theorem dX12_take_60 : decode cX12_take 60 = .ok (.iconst 1, 1) := by decide +kernel
theorem dX12_take_61 : decode cX12_take 61 = .ok (.goto 4, 3) := by decide +kernel
theorem dX12_take_64 : decode cX12_take 64 = .ok (.iconst 0, 1) := by decide +kernel
theorem dX12_take_65 : decode cX12_take 65 = .ok (.ior, 1) := by decide +kernel
theorem dX12_take_66 : decode cX12_take 66 = .ok (.istore_n 3, 1) := by decide +kernel
theorem dX12_take_67 : decode cX12_take 67 = .ok (.iinc 4 1, 3) := by decide +kernel
theorem dX12_take_70 : decode cX12_take 70 = .ok (.goto (-31), 3) := by decide +kernel
theorem dX12_take_73 : decode cX12_take 73 = .ok (.aload_n 0, 1) := by decide +kernel
theorem dX12_take_74 : decode cX12_take 74 = .ok (.aload_n 0, 1) := by decide +kernel
theorem dX12_take_75 : decode cX12_take 75 = .ok (.getfield 123, 3) := by decide +kernel
theorem dX12_take_78 : decode cX12_take 78 = .ok (.ifCond .ge 43, 3) := by decide +kernel
theorem dX12_take_81 : decode cX12_take 81 = .ok (.aload_n 0, 1) := by decide +kernel
theorem dX12_take_82 : decode cX12_take 82 = .ok (.getfield 83, 3) := by decide +kernel
theorem dX12_take_85 : decode cX12_take 85 = .ok (.iload_n 1, 1) := by decide +kernel
theorem dX12_take_86 : decode cX12_take 86 = .ok (.iaload, 1) := by decide +kernel
theorem dX12_take_87 : decode cX12_take 87 = .ok (.ifCond .gt 34, 3) := by decide +kernel
theorem dX12_take_90 : decode cX12_take 90 = .ok (.aload_n 0, 1) := by decide +kernel
theorem dX12_take_91 : decode cX12_take 91 = .ok (.getfield 80, 3) := by decide +kernel
theorem dX12_take_94 : decode cX12_take 94 = .ok (.iload_n 2, 1) := by decide +kernel
theorem dX12_take_95 : decode cX12_take 95 = .ok (.baload, 1) := by decide +kernel
theorem dX12_take_96 : decode cX12_take 96 = .ok (.ifCond .ne 25, 3) := by decide +kernel
theorem dX12_take_99 : decode cX12_take 99 = .ok (.iload_n 3, 1) := by decide +kernel
theorem dX12_take_100 : decode cX12_take 100 = .ok (.ifCond .ne 21, 3) := by decide +kernel
theorem dX12_take_103 : decode cX12_take 103 = .ok (.aload_n 0, 1) := by decide +kernel
theorem dX12_take_104 : decode cX12_take 104 = .ok (.getfield 62, 3) := by decide +kernel
theorem dX12_take_107 : decode cX12_take 107 = .ok (.iload_n 1, 1) := by decide +kernel
theorem dX12_take_108 : decode cX12_take 108 = .ok (.bipush 16, 2) := by decide +kernel
theorem dX12_take_110 : decode cX12_take 110 = .ok (.idiv, 1) := by decide +kernel
theorem dX12_take_111 : decode cX12_take 111 = .ok (.iaload, 1) := by decide +kernel
theorem dX12_take_112 : decode cX12_take 112 = .ok (.aload_n 0, 1) := by decide +kernel
theorem dX12_take_113 : decode cX12_take 113 = .ok (.getfield 74, 3) := by decide +kernel
theorem dX12_take_116 : decode cX12_take 116 = .ok (.iload_n 2, 1) := by decide +kernel
theorem dX12_take_117 : decode cX12_take 117 = .ok (.iaload, 1) := by decide +kernel
theorem dX12_take_118 : decode cX12_take 118 = .ok (.if_icmp .eq 7, 3) := by decide +kernel
theorem dX12_take_121 : decode cX12_take 121 = .ok (.iconst 2, 1) := by decide +kernel
theorem dX12_take_122 : decode cX12_take 122 = .ok (.goto 4, 3) := by decide +kernel
theorem dX12_take_125 : decode cX12_take 125 = .ok (.iconst 0, 1) := by decide +kernel
theorem dX12_take_126 : decode cX12_take 126 = .ok (.putfield 166, 3) := by decide +kernel
theorem dX12_take_129 : decode cX12_take 129 = .ok (.aload_n 0, 1) := by decide +kernel
theorem dX12_take_130 : decode cX12_take 130 = .ok (.getfield 166, 3) := by decide +kernel
theorem dX12_take_133 : decode cX12_take 133 = .ok (.ifCond .le 5, 3) := by decide +kernel
theorem dX12_take_136 : decode cX12_take 136 = .ok (.iconst 0, 1) := by decide +kernel
theorem dX12_take_137 : decode cX12_take 137 = .ok (.ireturn, 1) := by decide +kernel
theorem dX12_take_138 : decode cX12_take 138 = .ok (.aload_n 0, 1) := by decide +kernel
theorem dX12_take_139 : decode cX12_take 139 = .ok (.iload_n 1, 1) := by decide +kernel
theorem dX12_take_140 : decode cX12_take 140 = .ok (.iload_n 2, 1) := by decide +kernel
theorem dX12_take_141 : decode cX12_take 141 = .ok (.invokevirtual 398, 3) := by decide +kernel
theorem dX12_take_144 : decode cX12_take 144 = .ok (.iconst 0, 1) := by decide +kernel
theorem dX12_take_145 : decode cX12_take 145 = .ok (.istore 4, 2) := by decide +kernel
theorem dX12_take_147 : decode cX12_take 147 = .ok (.iload 4, 2) := by decide +kernel
theorem dX12_take_149 : decode cX12_take 149 = .ok (.iconst 3, 1) := by decide +kernel
theorem dX12_take_150 : decode cX12_take 150 = .ok (.if_icmp .ge 54, 3) := by decide +kernel
theorem dX12_take_153 : decode cX12_take 153 = .ok (.aload_n 0, 1) := by decide +kernel
theorem dX12_take_154 : decode cX12_take 154 = .ok (.getfield 86, 3) := by decide +kernel
theorem dX12_take_157 : decode cX12_take 157 = .ok (.iconst 3, 1) := by decide +kernel
theorem dX12_take_158 : decode cX12_take 158 = .ok (.iload_n 1, 1) := by decide +kernel
theorem dX12_take_159 : decode cX12_take 159 = .ok (.imul, 1) := by decide +kernel
theorem dX12_take_160 : decode cX12_take 160 = .ok (.iload 4, 2) := by decide +kernel
theorem dX12_take_162 : decode cX12_take 162 = .ok (.iadd, 1) := by decide +kernel
theorem dX12_take_163 : decode cX12_take 163 = .ok (.aload_n 0, 1) := by decide +kernel
theorem dX12_take_164 : decode cX12_take 164 = .ok (.aload_n 0, 1) := by decide +kernel
theorem dX12_take_165 : decode cX12_take 165 = .ok (.getfield 62, 3) := by decide +kernel
theorem dX12_take_168 : decode cX12_take 168 = .ok (.iload_n 1, 1) := by decide +kernel
theorem dX12_take_169 : decode cX12_take 169 = .ok (.bipush 16, 2) := by decide +kernel
theorem dX12_take_171 : decode cX12_take 171 = .ok (.idiv, 1) := by decide +kernel
theorem dX12_take_172 : decode cX12_take 172 = .ok (.iaload, 1) := by decide +kernel
theorem dX12_take_173 : decode cX12_take 173 = .ok (.iload 4, 2) := by decide +kernel
theorem dX12_take_175 : decode cX12_take 175 = .ok (.iconst 4, 1) := by decide +kernel
theorem dX12_take_176 : decode cX12_take 176 = .ok (.invokevirtual 330, 3) := by decide +kernel
theorem dX12_take_179 : decode cX12_take 179 = .ok (.ifCond .eq 7, 3) := by decide +kernel
theorem dX12_take_182 : decode cX12_take 182 = .ok (.iconst 0, 1) := by decide +kernel
theorem dX12_take_183 : decode cX12_take 183 = .ok (.goto 14, 3) := by decide +kernel
theorem dX12_take_186 : decode cX12_take 186 = .ok (.aload_n 0, 1) := by decide +kernel
theorem dX12_take_187 : decode cX12_take 187 = .ok (.getfield 86, 3) := by decide +kernel
theorem dX12_take_190 : decode cX12_take 190 = .ok (.iconst 3, 1) := by decide +kernel
theorem dX12_take_191 : decode cX12_take 191 = .ok (.iload_n 1, 1) := by decide +kernel
theorem dX12_take_192 : decode cX12_take 192 = .ok (.imul, 1) := by decide +kernel
theorem dX12_take_193 : decode cX12_take 193 = .ok (.iload 4, 2) := by decide +kernel
theorem dX12_take_195 : decode cX12_take 195 = .ok (.iadd, 1) := by decide +kernel
theorem dX12_take_196 : decode cX12_take 196 = .ok (.iaload, 1) := by decide +kernel
theorem dX12_take_197 : decode cX12_take 197 = .ok (.iastore, 1) := by decide +kernel
theorem dX12_take_198 : decode cX12_take 198 = .ok (.iinc 4 1, 3) := by decide +kernel
theorem dX12_take_201 : decode cX12_take 201 = .ok (.goto (-54), 3) := by decide +kernel
theorem dX12_take_204 : decode cX12_take 204 = .ok (.aload_n 0, 1) := by decide +kernel
theorem dX12_take_205 : decode cX12_take 205 = .ok (.dup, 1) := by decide +kernel
theorem dX12_take_206 : decode cX12_take 206 = .ok (.getfield 343, 3) := by decide +kernel
theorem dX12_take_209 : decode cX12_take 209 = .ok (.iconst 1, 1) := by decide +kernel
theorem dX12_take_210 : decode cX12_take 210 = .ok (.iadd, 1) := by decide +kernel
theorem dX12_take_211 : decode cX12_take 211 = .ok (.putfield 343, 3) := by decide +kernel
theorem dX12_take_214 : decode cX12_take 214 = .ok (.aload_n 0, 1) := by decide +kernel
theorem dX12_take_215 : decode cX12_take 215 = .ok (.getfield 343, 3) := by decide +kernel
theorem dX12_take_218 : decode cX12_take 218 = .ok (.ireturn, 1) := by decide +kernel
