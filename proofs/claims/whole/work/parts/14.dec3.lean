theorem dX11_countFaults_10 : decode cX11_countFaults 10 = .ok (.aload_n 0, 1) := by decide +kernel
theorem dX11_countFaults_11 : decode cX11_countFaults 11 = .ok (.invokevirtual 245, 3) := by decide +kernel
theorem dX11_countFaults_14 : decode cX11_countFaults 14 = .ok (.aload_n 0, 1) := by decide +kernel
theorem dX11_countFaults_15 : decode cX11_countFaults 15 = .ok (.getfield 68, 3) := by decide +kernel
theorem dX11_countFaults_18 : decode cX11_countFaults 18 = .ok (.iconst (-1), 1) := by decide +kernel
theorem dX11_countFaults_19 : decode cX11_countFaults 19 = .ok (.invokestatic 81, 3) := by decide +kernel
theorem dX11_countFaults_22 : decode cX11_countFaults 22 = .ok (.aload_n 0, 1) := by decide +kernel
theorem dX11_countFaults_23 : decode cX11_countFaults 23 = .ok (.invokevirtual 248, 3) := by decide +kernel
theorem dX11_countFaults_26 : decode cX11_countFaults 26 = .ok (.ifCond .eq 167, 3) := by decide +kernel
theorem dX11_countFaults_29 : decode cX11_countFaults 29 = .ok (.iconst 0, 1) := by decide +kernel
theorem dX11_countFaults_30 : decode cX11_countFaults 30 = .ok (.istore_n 2, 1) := by decide +kernel
theorem dX11_countFaults_31 : decode cX11_countFaults 31 = .ok (.iload_n 2, 1) := by decide +kernel
theorem dX11_countFaults_32 : decode cX11_countFaults 32 = .ok (.iconst 4, 1) := by decide +kernel
theorem dX11_countFaults_33 : decode cX11_countFaults 33 = .ok (.if_icmp .ge 30, 3) := by decide +kernel
theorem dX11_countFaults_36 : decode cX11_countFaults 36 = .ok (.iload_n 2, 1) := by decide +kernel
theorem dX11_countFaults_37 : decode cX11_countFaults 37 = .ok (.iconst 1, 1) := by decide +kernel
theorem dX11_countFaults_38 : decode cX11_countFaults 38 = .ok (.iadd, 1) := by decide +kernel
theorem dX11_countFaults_39 : decode cX11_countFaults 39 = .ok (.istore_n 3, 1) := by decide +kernel
theorem dX11_countFaults_40 : decode cX11_countFaults 40 = .ok (.iload_n 3, 1) := by decide +kernel
theorem dX11_countFaults_41 : decode cX11_countFaults 41 = .ok (.iconst 4, 1) := by decide +kernel
theorem dX11_countFaults_42 : decode cX11_countFaults 42 = .ok (.if_icmp .ge 15, 3) := by decide +kernel
theorem dX11_countFaults_45 : decode cX11_countFaults 45 = .ok (.aload_n 0, 1) := by decide +kernel
theorem dX11_countFaults_46 : decode cX11_countFaults 46 = .ok (.iload_n 2, 1) := by decide +kernel
theorem dX11_countFaults_47 : decode cX11_countFaults 47 = .ok (.iload_n 3, 1) := by decide +kernel
theorem dX11_countFaults_48 : decode cX11_countFaults 48 = .ok (.invokevirtual 288, 3) := by decide +kernel
theorem dX11_countFaults_51 : decode cX11_countFaults 51 = .ok (.iinc 3 1, 3) := by decide +kernel
theorem dX11_countFaults_54 : decode cX11_countFaults 54 = .ok (.goto (-14), 3) := by decide +kernel
theorem dX11_countFaults_57 : decode cX11_countFaults 57 = .ok (.iinc 2 1, 3) := by decide +kernel
theorem dX11_countFaults_60 : decode cX11_countFaults 60 = .ok (.goto (-29), 3) := by decide +kernel
theorem dX11_countFaults_63 : decode cX11_countFaults 63 = .ok (.iconst 0, 1) := by decide +kernel
theorem dX11_countFaults_64 : decode cX11_countFaults 64 = .ok (.istore_n 2, 1) := by decide +kernel
theorem dX11_countFaults_65 : decode cX11_countFaults 65 = .ok (.iload_n 2, 1) := by decide +kernel
theorem dX11_countFaults_66 : decode cX11_countFaults 66 = .ok (.iconst 4, 1) := by decide +kernel
theorem dX11_countFaults_67 : decode cX11_countFaults 67 = .ok (.if_icmp .ge 81, 3) := by decide +kernel
theorem dX11_countFaults_70 : decode cX11_countFaults 70 = .ok (.iload_n 2, 1) := by decide +kernel
theorem dX11_countFaults_71 : decode cX11_countFaults 71 = .ok (.iconst 1, 1) := by decide +kernel
theorem dX11_countFaults_72 : decode cX11_countFaults 72 = .ok (.iadd, 1) := by decide +kernel
theorem dX11_countFaults_73 : decode cX11_countFaults 73 = .ok (.istore_n 3, 1) := by decide +kernel
theorem dX11_countFaults_74 : decode cX11_countFaults 74 = .ok (.iload_n 3, 1) := by decide +kernel
theorem dX11_countFaults_75 : decode cX11_countFaults 75 = .ok (.iconst 4, 1) := by decide +kernel
theorem dX11_countFaults_76 : decode cX11_countFaults 76 = .ok (.if_icmp .ge 66, 3) := by decide +kernel
theorem dX11_countFaults_79 : decode cX11_countFaults 79 = .ok (.aload_n 0, 1) := by decide +kernel
theorem dX11_countFaults_80 : decode cX11_countFaults 80 = .ok (.iload_n 2, 1) := by decide +kernel
theorem dX11_countFaults_81 : decode cX11_countFaults 81 = .ok (.invokevirtual 258, 3) := by decide +kernel
theorem dX11_countFaults_84 : decode cX11_countFaults 84 = .ok (.iconst (-1), 1) := by decide +kernel
theorem dX11_countFaults_85 : decode cX11_countFaults 85 = .ok (.if_icmp .eq 51, 3) := by decide +kernel
theorem dX11_countFaults_88 : decode cX11_countFaults 88 = .ok (.aload_n 0, 1) := by decide +kernel
theorem dX11_countFaults_89 : decode cX11_countFaults 89 = .ok (.iload_n 3, 1) := by decide +kernel
theorem dX11_countFaults_90 : decode cX11_countFaults 90 = .ok (.invokevirtual 258, 3) := by decide +kernel
theorem dX11_countFaults_93 : decode cX11_countFaults 93 = .ok (.iconst (-1), 1) := by decide +kernel
theorem dX11_countFaults_94 : decode cX11_countFaults 94 = .ok (.if_icmp .eq 42, 3) := by decide +kernel
theorem dX11_countFaults_97 : decode cX11_countFaults 97 = .ok (.aload_n 0, 1) := by decide +kernel
theorem dX11_countFaults_98 : decode cX11_countFaults 98 = .ok (.iload_n 2, 1) := by decide +kernel
theorem dX11_countFaults_99 : decode cX11_countFaults 99 = .ok (.invokevirtual 291, 3) := by decide +kernel
theorem dX11_countFaults_102 : decode cX11_countFaults 102 = .ok (.ifCond .ne 11, 3) := by decide +kernel
theorem dX11_countFaults_105 : decode cX11_countFaults 105 = .ok (.aload_n 0, 1) := by decide +kernel
theorem dX11_countFaults_106 : decode cX11_countFaults 106 = .ok (.iload_n 3, 1) := by decide +kernel
theorem dX11_countFaults_107 : decode cX11_countFaults 107 = .ok (.invokevirtual 291, 3) := by decide +kernel
theorem dX11_countFaults_110 : decode cX11_countFaults 110 = .ok (.ifCond .eq 26, 3) := by decide +kernel
theorem dX11_countFaults_113 : decode cX11_countFaults 113 = .ok (.aload_n 0, 1) := by decide +kernel
theorem dX11_countFaults_114 : decode cX11_countFaults 114 = .ok (.iload_n 2, 1) := by decide +kernel
theorem dX11_countFaults_115 : decode cX11_countFaults 115 = .ok (.invokevirtual 258, 3) := by decide +kernel
theorem dX11_countFaults_118 : decode cX11_countFaults 118 = .ok (.aload_n 0, 1) := by decide +kernel
theorem dX11_countFaults_119 : decode cX11_countFaults 119 = .ok (.iload_n 3, 1) := by decide +kernel
theorem dX11_countFaults_120 : decode cX11_countFaults 120 = .ok (.invokevirtual 258, 3) := by decide +kernel
theorem dX11_countFaults_123 : decode cX11_countFaults 123 = .ok (.if_icmp .ge 13, 3) := by decide +kernel
theorem dX11_countFaults_126 : decode cX11_countFaults 126 = .ok (.aload_n 0, 1) := by decide +kernel
theorem dX11_countFaults_127 : decode cX11_countFaults 127 = .ok (.iconst 2, 1) := by decide +kernel
theorem dX11_countFaults_128 : decode cX11_countFaults 128 = .ok (.iconst 4, 1) := by decide +kernel
theorem dX11_countFaults_129 : decode cX11_countFaults 129 = .ok (.iload_n 2, 1) := by decide +kernel
theorem dX11_countFaults_130 : decode cX11_countFaults 130 = .ok (.imul, 1) := by decide +kernel
theorem dX11_countFaults_131 : decode cX11_countFaults 131 = .ok (.iload_n 3, 1) := by decide +kernel
theorem dX11_countFaults_132 : decode cX11_countFaults 132 = .ok (.iadd, 1) := by decide +kernel
theorem dX11_countFaults_133 : decode cX11_countFaults 133 = .ok (.invokevirtual 294, 3) := by decide +kernel
theorem dX11_countFaults_136 : decode cX11_countFaults 136 = .ok (.iinc 3 1, 3) := by decide +kernel
theorem dX11_countFaults_139 : decode cX11_countFaults 139 = .ok (.goto (-65), 3) := by decide +kernel
theorem dX11_countFaults_142 : decode cX11_countFaults 142 = .ok (.iinc 2 1, 3) := by decide +kernel
theorem dX11_countFaults_145 : decode cX11_countFaults 145 = .ok (.goto (-80), 3) := by decide +kernel
theorem dX11_countFaults_148 : decode cX11_countFaults 148 = .ok (.iconst 0, 1) := by decide +kernel
theorem dX11_countFaults_149 : decode cX11_countFaults 149 = .ok (.istore_n 2, 1) := by decide +kernel
theorem dX11_countFaults_150 : decode cX11_countFaults 150 = .ok (.iload_n 2, 1) := by decide +kernel
theorem dX11_countFaults_151 : decode cX11_countFaults 151 = .ok (.iconst 4, 1) := by decide +kernel
theorem dX11_countFaults_152 : decode cX11_countFaults 152 = .ok (.if_icmp .ge 14, 3) := by decide +kernel
theorem dX11_countFaults_155 : decode cX11_countFaults 155 = .ok (.aload_n 0, 1) := by decide +kernel
theorem dX11_countFaults_156 : decode cX11_countFaults 156 = .ok (.iload_n 2, 1) := by decide +kernel
theorem dX11_countFaults_157 : decode cX11_countFaults 157 = .ok (.invokevirtual 297, 3) := by decide +kernel
theorem dX11_countFaults_160 : decode cX11_countFaults 160 = .ok (.iinc 2 1, 3) := by decide +kernel
theorem dX11_countFaults_163 : decode cX11_countFaults 163 = .ok (.goto (-13), 3) := by decide +kernel
theorem dX11_countFaults_166 : decode cX11_countFaults 166 = .ok (.iconst 0, 1) := by decide +kernel
theorem dX11_countFaults_167 : decode cX11_countFaults 167 = .ok (.istore_n 2, 1) := by decide +kernel
theorem dX11_countFaults_168 : decode cX11_countFaults 168 = .ok (.iload_n 2, 1) := by decide +kernel
theorem dX11_countFaults_169 : decode cX11_countFaults 169 = .ok (.iconst 4, 1) := by decide +kernel
theorem dX11_countFaults_170 : decode cX11_countFaults 170 = .ok (.if_icmp .ge 20, 3) := by decide +kernel
theorem dX11_countFaults_173 : decode cX11_countFaults 173 = .ok (.aload_n 0, 1) := by decide +kernel
theorem dX11_countFaults_174 : decode cX11_countFaults 174 = .ok (.getfield 68, 3) := by decide +kernel
theorem dX11_countFaults_177 : decode cX11_countFaults 177 = .ok (.iload_n 2, 1) := by decide +kernel
theorem dX11_countFaults_178 : decode cX11_countFaults 178 = .ok (.aload_n 0, 1) := by decide +kernel
theorem dX11_countFaults_179 : decode cX11_countFaults 179 = .ok (.iload_n 2, 1) := by decide +kernel
theorem dX11_countFaults_180 : decode cX11_countFaults 180 = .ok (.invokevirtual 258, 3) := by decide +kernel
theorem dX11_countFaults_183 : decode cX11_countFaults 183 = .ok (.iastore, 1) := by decide +kernel
theorem dX11_countFaults_184 : decode cX11_countFaults 184 = .ok (.iinc 2 1, 3) := by decide +kernel
theorem dX11_countFaults_187 : decode cX11_countFaults 187 = .ok (.goto (-19), 3) := by decide +kernel
theorem dX11_countFaults_190 : decode cX11_countFaults 190 = .ok (.goto (-168), 3) := by decide +kernel
theorem dX11_countFaults_193 : decode cX11_countFaults 193 = .ok (.aload_n 0, 1) := by decide +kernel
theorem dX11_countFaults_194 : decode cX11_countFaults 194 = .ok (.getfield 273, 3) := by decide +kernel
theorem dX11_countFaults_197 : decode cX11_countFaults 197 = .ok (.ireturn, 1) := by decide +kernel
theorem dX11_blameParallels_0 : decode cX11_blameParallels 0 = .ok (.aload_n 0, 1) := by decide +kernel
theorem dX11_blameParallels_1 : decode cX11_blameParallels 1 = .ok (.iload_n 1, 1) := by decide +kernel
theorem dX11_blameParallels_2 : decode cX11_blameParallels 2 = .ok (.invokevirtual 258, 3) := by decide +kernel
theorem dX11_blameParallels_5 : decode cX11_blameParallels 5 = .ok (.istore_n 3, 1) := by decide +kernel
theorem dX11_blameParallels_6 : decode cX11_blameParallels 6 = .ok (.aload_n 0, 1) := by decide +kernel
theorem dX11_blameParallels_7 : decode cX11_blameParallels 7 = .ok (.iload_n 2, 1) := by decide +kernel
theorem dX11_blameParallels_8 : decode cX11_blameParallels 8 = .ok (.invokevirtual 258, 3) := by decide +kernel
theorem dX11_blameParallels_11 : decode cX11_blameParallels 11 = .ok (.istore 4, 2) := by decide +kernel
theorem dX11_blameParallels_13 : decode cX11_blameParallels 13 = .ok (.iload_n 3, 1) := by decide +kernel
theorem dX11_blameParallels_14 : decode cX11_blameParallels 14 = .ok (.iconst (-1), 1) := by decide +kernel
theorem dX11_blameParallels_15 : decode cX11_blameParallels 15 = .ok (.if_icmp .eq 45, 3) := by decide +kernel
theorem dX11_blameParallels_18 : decode cX11_blameParallels 18 = .ok (.iload 4, 2) := by decide +kernel
theorem dX11_blameParallels_20 : decode cX11_blameParallels 20 = .ok (.iconst (-1), 1) := by decide +kernel
theorem dX11_blameParallels_21 : decode cX11_blameParallels 21 = .ok (.if_icmp .eq 39, 3) := by decide +kernel
theorem dX11_blameParallels_24 : decode cX11_blameParallels 24 = .ok (.aload_n 0, 1) := by decide +kernel
theorem dX11_blameParallels_25 : decode cX11_blameParallels 25 = .ok (.getfield 68, 3) := by decide +kernel
theorem dX11_blameParallels_28 : decode cX11_blameParallels 28 = .ok (.iload_n 1, 1) := by decide +kernel
theorem dX11_blameParallels_29 : decode cX11_blameParallels 29 = .ok (.iaload, 1) := by decide +kernel
theorem dX11_blameParallels_30 : decode cX11_blameParallels 30 = .ok (.iconst (-1), 1) := by decide +kernel
theorem dX11_blameParallels_31 : decode cX11_blameParallels 31 = .ok (.if_icmp .eq 29, 3) := by decide +kernel
theorem dX11_blameParallels_34 : decode cX11_blameParallels 34 = .ok (.aload_n 0, 1) := by decide +kernel
theorem dX11_blameParallels_35 : decode cX11_blameParallels 35 = .ok (.getfield 68, 3) := by decide +kernel
theorem dX11_blameParallels_38 : decode cX11_blameParallels 38 = .ok (.iload_n 2, 1) := by decide +kernel
theorem dX11_blameParallels_39 : decode cX11_blameParallels 39 = .ok (.iaload, 1) := by decide +kernel
theorem dX11_blameParallels_40 : decode cX11_blameParallels 40 = .ok (.iconst (-1), 1) := by decide +kernel
theorem dX11_blameParallels_41 : decode cX11_blameParallels 41 = .ok (.if_icmp .eq 19, 3) := by decide +kernel
theorem dX11_blameParallels_44 : decode cX11_blameParallels 44 = .ok (.aload_n 0, 1) := by decide +kernel
theorem dX11_blameParallels_45 : decode cX11_blameParallels 45 = .ok (.iload_n 1, 1) := by decide +kernel
theorem dX11_blameParallels_46 : decode cX11_blameParallels 46 = .ok (.invokevirtual 291, 3) := by decide +kernel
theorem dX11_blameParallels_49 : decode cX11_blameParallels 49 = .ok (.ifCond .eq 11, 3) := by decide +kernel
theorem dX11_blameParallels_52 : decode cX11_blameParallels 52 = .ok (.aload_n 0, 1) := by decide +kernel
theorem dX11_blameParallels_53 : decode cX11_blameParallels 53 = .ok (.iload_n 2, 1) := by decide +kernel
theorem dX11_blameParallels_54 : decode cX11_blameParallels 54 = .ok (.invokevirtual 291, 3) := by decide +kernel
theorem dX11_blameParallels_57 : decode cX11_blameParallels 57 = .ok (.ifCond .ne 4, 3) := by decide +kernel
theorem dX11_blameParallels_60 : decode cX11_blameParallels 60 = .ok (.return_, 1) := by decide +kernel
theorem dX11_blameParallels_61 : decode cX11_blameParallels 61 = .ok (.iload_n 3, 1) := by decide +kernel
theorem dX11_blameParallels_62 : decode cX11_blameParallels 62 = .ok (.aload_n 0, 1) := by decide +kernel
theorem dX11_blameParallels_63 : decode cX11_blameParallels 63 = .ok (.getfield 68, 3) := by decide +kernel
theorem dX11_blameParallels_66 : decode cX11_blameParallels 66 = .ok (.iload_n 1, 1) := by decide +kernel
theorem dX11_blameParallels_67 : decode cX11_blameParallels 67 = .ok (.iaload, 1) := by decide +kernel
theorem dX11_blameParallels_68 : decode cX11_blameParallels 68 = .ok (.if_icmp .le 14, 3) := by decide +kernel
theorem dX11_blameParallels_71 : decode cX11_blameParallels 71 = .ok (.iload 4, 2) := by decide +kernel
theorem dX11_blameParallels_73 : decode cX11_blameParallels 73 = .ok (.aload_n 0, 1) := by decide +kernel
theorem dX11_blameParallels_74 : decode cX11_blameParallels 74 = .ok (.getfield 68, 3) := by decide +kernel
theorem dX11_blameParallels_77 : decode cX11_blameParallels 77 = .ok (.iload_n 2, 1) := by decide +kernel
theorem dX11_blameParallels_78 : decode cX11_blameParallels 78 = .ok (.iaload, 1) := by decide +kernel
theorem dX11_blameParallels_79 : decode cX11_blameParallels 79 = .ok (.if_icmp .gt 25, 3) := by decide +kernel
theorem dX11_blameParallels_82 : decode cX11_blameParallels 82 = .ok (.iload_n 3, 1) := by decide +kernel
theorem dX11_blameParallels_83 : decode cX11_blameParallels 83 = .ok (.aload_n 0, 1) := by decide +kernel
theorem dX11_blameParallels_84 : decode cX11_blameParallels 84 = .ok (.getfield 68, 3) := by decide +kernel
theorem dX11_blameParallels_87 : decode cX11_blameParallels 87 = .ok (.iload_n 1, 1) := by decide +kernel
theorem dX11_blameParallels_88 : decode cX11_blameParallels 88 = .ok (.iaload, 1) := by decide +kernel
theorem dX11_blameParallels_89 : decode cX11_blameParallels 89 = .ok (.if_icmp .ge 14, 3) := by decide +kernel
theorem dX11_blameParallels_92 : decode cX11_blameParallels 92 = .ok (.iload 4, 2) := by decide +kernel
theorem dX11_blameParallels_94 : decode cX11_blameParallels 94 = .ok (.aload_n 0, 1) := by decide +kernel
theorem dX11_blameParallels_95 : decode cX11_blameParallels 95 = .ok (.getfield 68, 3) := by decide +kernel
theorem dX11_blameParallels_98 : decode cX11_blameParallels 98 = .ok (.iload_n 2, 1) := by decide +kernel
theorem dX11_blameParallels_99 : decode cX11_blameParallels 99 = .ok (.iaload, 1) := by decide +kernel
theorem dX11_blameParallels_100 : decode cX11_blameParallels 100 = .ok (.if_icmp .lt 4, 3) := by decide +kernel
theorem dX11_blameParallels_103 : decode cX11_blameParallels 103 = .ok (.return_, 1) := by decide +kernel
theorem dX11_blameParallels_104 : decode cX11_blameParallels 104 = .ok (.iload_n 3, 1) := by decide +kernel
theorem dX11_blameParallels_105 : decode cX11_blameParallels 105 = .ok (.iload 4, 2) := by decide +kernel
theorem dX11_blameParallels_107 : decode cX11_blameParallels 107 = .ok (.isub, 1) := by decide +kernel
theorem dX11_blameParallels_108 : decode cX11_blameParallels 108 = .ok (.bipush 12, 2) := by decide +kernel
theorem dX11_blameParallels_110 : decode cX11_blameParallels 110 = .ok (.invokestatic 13, 3) := by decide +kernel
theorem dX11_blameParallels_113 : decode cX11_blameParallels 113 = .ok (.istore 5, 2) := by decide +kernel
theorem dX11_blameParallels_115 : decode cX11_blameParallels 115 = .ok (.iload 5, 2) := by decide +kernel
theorem dX11_blameParallels_117 : decode cX11_blameParallels 117 = .ok (.aload_n 0, 1) := by decide +kernel
theorem dX11_blameParallels_118 : decode cX11_blameParallels 118 = .ok (.getfield 68, 3) := by decide +kernel
theorem dX11_blameParallels_121 : decode cX11_blameParallels 121 = .ok (.iload_n 1, 1) := by decide +kernel
theorem dX11_blameParallels_122 : decode cX11_blameParallels 122 = .ok (.iaload, 1) := by decide +kernel
theorem dX11_blameParallels_123 : decode cX11_blameParallels 123 = .ok (.aload_n 0, 1) := by decide +kernel
theorem dX11_blameParallels_124 : decode cX11_blameParallels 124 = .ok (.getfield 68, 3) := by decide +kernel
theorem dX11_blameParallels_127 : decode cX11_blameParallels 127 = .ok (.iload_n 2, 1) := by decide +kernel
theorem dX11_blameParallels_128 : decode cX11_blameParallels 128 = .ok (.iaload, 1) := by decide +kernel
theorem dX11_blameParallels_129 : decode cX11_blameParallels 129 = .ok (.isub, 1) := by decide +kernel
theorem dX11_blameParallels_130 : decode cX11_blameParallels 130 = .ok (.bipush 12, 2) := by decide +kernel
theorem dX11_blameParallels_132 : decode cX11_blameParallels 132 = .ok (.invokestatic 13, 3) := by decide +kernel
theorem dX11_blameParallels_135 : decode cX11_blameParallels 135 = .ok (.if_icmp .eq 4, 3) := by decide +kernel
theorem dX11_blameParallels_138 : decode cX11_blameParallels 138 = .ok (.return_, 1) := by decide +kernel
theorem dX11_blameParallels_139 : decode cX11_blameParallels 139 = .ok (.iload 5, 2) := by decide +kernel
theorem dX11_blameParallels_141 : decode cX11_blameParallels 141 = .ok (.bipush 7, 2) := by decide +kernel
theorem dX11_blameParallels_143 : decode cX11_blameParallels 143 = .ok (.if_icmp .ne 13, 3) := by decide +kernel
theorem dX11_blameParallels_146 : decode cX11_blameParallels 146 = .ok (.aload_n 0, 1) := by decide +kernel
theorem dX11_blameParallels_147 : decode cX11_blameParallels 147 = .ok (.iconst 0, 1) := by decide +kernel
theorem dX11_blameParallels_148 : decode cX11_blameParallels 148 = .ok (.iconst 4, 1) := by decide +kernel
theorem dX11_blameParallels_149 : decode cX11_blameParallels 149 = .ok (.iload_n 1, 1) := by decide +kernel
theorem dX11_blameParallels_150 : decode cX11_blameParallels 150 = .ok (.imul, 1) := by decide +kernel
theorem dX11_blameParallels_151 : decode cX11_blameParallels 151 = .ok (.iload_n 2, 1) := by decide +kernel
theorem dX11_blameParallels_152 : decode cX11_blameParallels 152 = .ok (.iadd, 1) := by decide +kernel
theorem dX11_blameParallels_153 : decode cX11_blameParallels 153 = .ok (.invokevirtual 294, 3) := by decide +kernel
theorem dX11_blameParallels_156 : decode cX11_blameParallels 156 = .ok (.iload 5, 2) := by decide +kernel
theorem dX11_blameParallels_158 : decode cX11_blameParallels 158 = .ok (.ifCond .ne 13, 3) := by decide +kernel
theorem dX11_blameParallels_161 : decode cX11_blameParallels 161 = .ok (.aload_n 0, 1) := by decide +kernel
theorem dX11_blameParallels_162 : decode cX11_blameParallels 162 = .ok (.iconst 1, 1) := by decide +kernel
theorem dX11_blameParallels_163 : decode cX11_blameParallels 163 = .ok (.iconst 4, 1) := by decide +kernel
theorem dX11_blameParallels_164 : decode cX11_blameParallels 164 = .ok (.iload_n 1, 1) := by decide +kernel
theorem dX11_blameParallels_165 : decode cX11_blameParallels 165 = .ok (.imul, 1) := by decide +kernel
theorem dX11_blameParallels_166 : decode cX11_blameParallels 166 = .ok (.iload_n 2, 1) := by decide +kernel
theorem dX11_blameParallels_167 : decode cX11_blameParallels 167 = .ok (.iadd, 1) := by decide +kernel
theorem dX11_blameParallels_168 : decode cX11_blameParallels 168 = .ok (.invokevirtual 294, 3) := by decide +kernel
theorem dX11_blameParallels_171 : decode cX11_blameParallels 171 = .ok (.return_, 1) := by decide +kernel
theorem dX11_blamePart_0 : decode cX11_blamePart 0 = .ok (.aload_n 0, 1) := by decide +kernel
theorem dX11_blamePart_1 : decode cX11_blamePart 1 = .ok (.getfield 62, 3) := by decide +kernel
theorem dX11_blamePart_4 : decode cX11_blamePart 4 = .ok (.iload_n 1, 1) := by decide +kernel
theorem dX11_blamePart_5 : decode cX11_blamePart 5 = .ok (.iaload, 1) := by decide +kernel
theorem dX11_blamePart_6 : decode cX11_blamePart 6 = .ok (.istore_n 2, 1) := by decide +kernel
theorem dX11_blamePart_7 : decode cX11_blamePart 7 = .ok (.aload_n 0, 1) := by decide +kernel
theorem dX11_blamePart_8 : decode cX11_blamePart 8 = .ok (.iload_n 1, 1) := by decide +kernel
theorem dX11_blamePart_9 : decode cX11_blamePart 9 = .ok (.invokevirtual 291, 3) := by decide +kernel
theorem dX11_blamePart_12 : decode cX11_blamePart 12 = .ok (.ifCond .eq 16, 3) := by decide +kernel
theorem dX11_blamePart_15 : decode cX11_blamePart 15 = .ok (.aload_n 0, 1) := by decide +kernel
theorem dX11_blamePart_16 : decode cX11_blamePart 16 = .ok (.getfield 24, 3) := by decide +kernel
theorem dX11_blamePart_19 : decode cX11_blamePart 19 = .ok (.iload_n 1, 1) := by decide +kernel
theorem dX11_blamePart_20 : decode cX11_blamePart 20 = .ok (.aaload, 1) := by decide +kernel
theorem dX11_blamePart_21 : decode cX11_blamePart 21 = .ok (.iload_n 2, 1) := by decide +kernel
theorem dX11_blamePart_22 : decode cX11_blamePart 22 = .ok (.invokevirtual 137, 3) := by decide +kernel
theorem dX11_blamePart_25 : decode cX11_blamePart 25 = .ok (.ifCond .ne 4, 3) := by decide +kernel
theorem dX11_blamePart_28 : decode cX11_blamePart 28 = .ok (.return_, 1) := by decide +kernel
theorem dX11_blamePart_29 : decode cX11_blamePart 29 = .ok (.iload_n 2, 1) := by decide +kernel
theorem dX11_blamePart_30 : decode cX11_blamePart 30 = .ok (.ifCond .le 55, 3) := by decide +kernel
theorem dX11_blamePart_33 : decode cX11_blamePart 33 = .ok (.aload_n 0, 1) := by decide +kernel
theorem dX11_blamePart_34 : decode cX11_blamePart 34 = .ok (.getfield 24, 3) := by decide +kernel
theorem dX11_blamePart_37 : decode cX11_blamePart 37 = .ok (.iload_n 1, 1) := by decide +kernel
theorem dX11_blamePart_38 : decode cX11_blamePart 38 = .ok (.aaload, 1) := by decide +kernel
theorem dX11_blamePart_39 : decode cX11_blamePart 39 = .ok (.iload_n 2, 1) := by decide +kernel
theorem dX11_blamePart_40 : decode cX11_blamePart 40 = .ok (.iconst 1, 1) := by decide +kernel
theorem dX11_blamePart_41 : decode cX11_blamePart 41 = .ok (.isub, 1) := by decide +kernel
theorem dX11_blamePart_42 : decode cX11_blamePart 42 = .ok (.invokevirtual 137, 3) := by decide +kernel
theorem dX11_blamePart_45 : decode cX11_blamePart 45 = .ok (.ifCond .eq 40, 3) := by decide +kernel
theorem dX11_blamePart_48 : decode cX11_blamePart 48 = .ok (.aload_n 0, 1) := by decide +kernel
theorem dX11_blamePart_49 : decode cX11_blamePart 49 = .ok (.getfield 24, 3) := by decide +kernel
theorem dX11_blamePart_52 : decode cX11_blamePart 52 = .ok (.iload_n 1, 1) := by decide +kernel
theorem dX11_blamePart_53 : decode cX11_blamePart 53 = .ok (.aaload, 1) := by decide +kernel
theorem dX11_blamePart_54 : decode cX11_blamePart 54 = .ok (.iload_n 2, 1) := by decide +kernel
theorem dX11_blamePart_55 : decode cX11_blamePart 55 = .ok (.invokevirtual 140, 3) := by decide +kernel
theorem dX11_blamePart_58 : decode cX11_blamePart 58 = .ok (.aload_n 0, 1) := by decide +kernel
theorem dX11_blamePart_59 : decode cX11_blamePart 59 = .ok (.getfield 24, 3) := by decide +kernel
theorem dX11_blamePart_62 : decode cX11_blamePart 62 = .ok (.iload_n 1, 1) := by decide +kernel
theorem dX11_blamePart_63 : decode cX11_blamePart 63 = .ok (.aaload, 1) := by decide +kernel
theorem dX11_blamePart_64 : decode cX11_blamePart 64 = .ok (.iload_n 2, 1) := by decide +kernel
theorem dX11_blamePart_65 : decode cX11_blamePart 65 = .ok (.iconst 1, 1) := by decide +kernel
theorem dX11_blamePart_66 : decode cX11_blamePart 66 = .ok (.isub, 1) := by decide +kernel
theorem dX11_blamePart_67 : decode cX11_blamePart 67 = .ok (.invokevirtual 140, 3) := by decide +kernel
theorem dX11_blamePart_70 : decode cX11_blamePart 70 = .ok (.isub, 1) := by decide +kernel
theorem dX11_blamePart_71 : decode cX11_blamePart 71 = .ok (.invokestatic 190, 3) := by decide +kernel
theorem dX11_blamePart_74 : decode cX11_blamePart 74 = .ok (.bipush 12, 2) := by decide +kernel
theorem dX11_blamePart_76 : decode cX11_blamePart 76 = .ok (.if_icmp .le 9, 3) := by decide +kernel
theorem dX11_blamePart_79 : decode cX11_blamePart 79 = .ok (.aload_n 0, 1) := by decide +kernel
theorem dX11_blamePart_80 : decode cX11_blamePart 80 = .ok (.iconst 3, 1) := by decide +kernel
theorem dX11_blamePart_81 : decode cX11_blamePart 81 = .ok (.iload_n 1, 1) := by decide +kernel
theorem dX11_blamePart_82 : decode cX11_blamePart 82 = .ok (.invokevirtual 294, 3) := by decide +kernel
theorem dX11_blamePart_85 : decode cX11_blamePart 85 = .ok (.aload_n 0, 1) := by decide +kernel
theorem dX11_blamePart_86 : decode cX11_blamePart 86 = .ok (.getfield 24, 3) := by decide +kernel
theorem dX11_blamePart_89 : decode cX11_blamePart 89 = .ok (.iload_n 1, 1) := by decide +kernel
theorem dX11_blamePart_90 : decode cX11_blamePart 90 = .ok (.aaload, 1) := by decide +kernel
theorem dX11_blamePart_91 : decode cX11_blamePart 91 = .ok (.iload_n 2, 1) := by decide +kernel
theorem dX11_blamePart_92 : decode cX11_blamePart 92 = .ok (.invokevirtual 158, 3) := by decide +kernel
theorem dX11_blamePart_95 : decode cX11_blamePart 95 = .ok (.ifCond .eq 9, 3) := by decide +kernel
theorem dX11_blamePart_98 : decode cX11_blamePart 98 = .ok (.aload_n 0, 1) := by decide +kernel
theorem dX11_blamePart_99 : decode cX11_blamePart 99 = .ok (.iconst 4, 1) := by decide +kernel
theorem dX11_blamePart_100 : decode cX11_blamePart 100 = .ok (.iload_n 1, 1) := by decide +kernel
theorem dX11_blamePart_101 : decode cX11_blamePart 101 = .ok (.invokevirtual 294, 3) := by decide +kernel
theorem dX11_blamePart_104 : decode cX11_blamePart 104 = .ok (.return_, 1) := by decide +kernel
theorem dX11_faults_0 : decode cX11_faults 0 = .ok (.aload_n 0, 1) := by decide +kernel
theorem dX11_faults_1 : decode cX11_faults 1 = .ok (.iconst 0, 1) := by decide +kernel
theorem dX11_faults_2 : decode cX11_faults 2 = .ok (.putfield 87, 3) := by decide +kernel
theorem dX11_faults_5 : decode cX11_faults 5 = .ok (.aload_n 0, 1) := by decide +kernel
theorem dX11_faults_6 : decode cX11_faults 6 = .ok (.iconst (-1), 1) := by decide +kernel
theorem dX11_faults_7 : decode cX11_faults 7 = .ok (.invokevirtual 301, 3) := by decide +kernel
theorem dX11_faults_10 : decode cX11_faults 10 = .ok (.ireturn, 1) := by decide +kernel
theorem dX11_hasFault_0 : decode cX11_hasFault 0 = .ok (.aload_n 0, 1) := by decide +kernel
theorem dX11_hasFault_1 : decode cX11_hasFault 1 = .ok (.iload_n 1, 1) := by decide +kernel
theorem dX11_hasFault_2 : decode cX11_hasFault 2 = .ok (.ifCond .lt 16, 3) := by decide +kernel
theorem dX11_hasFault_5 : decode cX11_hasFault 5 = .ok (.iload_n 1, 1) := by decide +kernel
theorem dX11_hasFault_6 : decode cX11_hasFault 6 = .ok (.aload_n 0, 1) := by decide +kernel
theorem dX11_hasFault_7 : decode cX11_hasFault 7 = .ok (.iload_n 1, 1) := by decide +kernel
theorem dX11_hasFault_8 : decode cX11_hasFault 8 = .ok (.invokevirtual 301, 3) := by decide +kernel
theorem dX11_hasFault_11 : decode cX11_hasFault 11 = .ok (.if_icmp .ge 7, 3) := by decide +kernel
theorem dX11_hasFault_14 : decode cX11_hasFault 14 = .ok (.iconst 0, 1) := by decide +kernel
theorem dX11_hasFault_15 : decode cX11_hasFault 15 = .ok (.goto 4, 3) := by decide +kernel
theorem dX11_hasFault_18 : decode cX11_hasFault 18 = .ok (.iconst 1, 1) := by decide +kernel
theorem dX11_hasFault_19 : decode cX11_hasFault 19 = .ok (.putfield 87, 3) := by decide +kernel
theorem dX11_hasFault_22 : decode cX11_hasFault 22 = .ok (.aload_n 0, 1) := by decide +kernel
theorem dX11_hasFault_23 : decode cX11_hasFault 23 = .ok (.getfield 87, 3) := by decide +kernel
theorem dX11_hasFault_26 : decode cX11_hasFault 26 = .ok (.ifCond .ne 7, 3) := by decide +kernel
theorem dX11_hasFault_29 : decode cX11_hasFault 29 = .ok (.iconst 1, 1) := by decide +kernel
theorem dX11_hasFault_30 : decode cX11_hasFault 30 = .ok (.goto 4, 3) := by decide +kernel
theorem dX11_hasFault_33 : decode cX11_hasFault 33 = .ok (.iconst 0, 1) := by decide +kernel
theorem dX11_hasFault_34 : decode cX11_hasFault 34 = .ok (.ireturn, 1) := by decide +kernel
theorem dX11_kindOfFault_0 : decode cX11_kindOfFault 0 = .ok (.aload_n 0, 1) := by decide +kernel
theorem dX11_kindOfFault_1 : decode cX11_kindOfFault 1 = .ok (.iload_n 1, 1) := by decide +kernel
theorem dX11_kindOfFault_2 : decode cX11_kindOfFault 2 = .ok (.invokevirtual 304, 3) := by decide +kernel
theorem dX11_kindOfFault_5 : decode cX11_kindOfFault 5 = .ok (.ifCond .eq 10, 3) := by decide +kernel
theorem dX11_kindOfFault_8 : decode cX11_kindOfFault 8 = .ok (.aload_n 0, 1) := by decide +kernel
theorem dX11_kindOfFault_9 : decode cX11_kindOfFault 9 = .ok (.getfield 279, 3) := by decide +kernel
theorem dX11_kindOfFault_12 : decode cX11_kindOfFault 12 = .ok (.goto 4, 3) := by decide +kernel
theorem dX11_kindOfFault_15 : decode cX11_kindOfFault 15 = .ok (.iconst 0, 1) := by decide +kernel
theorem dX11_kindOfFault_16 : decode cX11_kindOfFault 16 = .ok (.ireturn, 1) := by decide +kernel
theorem dX11_tickOfFault_0 : decode cX11_tickOfFault 0 = .ok (.aload_n 0, 1) := by decide +kernel
theorem dX11_tickOfFault_1 : decode cX11_tickOfFault 1 = .ok (.iload_n 1, 1) := by decide +kernel
theorem dX11_tickOfFault_2 : decode cX11_tickOfFault 2 = .ok (.invokevirtual 304, 3) := by decide +kernel
theorem dX11_tickOfFault_5 : decode cX11_tickOfFault 5 = .ok (.ifCond .eq 10, 3) := by decide +kernel
theorem dX11_tickOfFault_8 : decode cX11_tickOfFault 8 = .ok (.aload_n 0, 1) := by decide +kernel
theorem dX11_tickOfFault_9 : decode cX11_tickOfFault 9 = .ok (.getfield 282, 3) := by decide +kernel
theorem dX11_tickOfFault_12 : decode cX11_tickOfFault 12 = .ok (.goto 4, 3) := by decide +kernel
theorem dX11_tickOfFault_15 : decode cX11_tickOfFault 15 = .ok (.iconst 0, 1) := by decide +kernel
theorem dX11_tickOfFault_16 : decode cX11_tickOfFault 16 = .ok (.ireturn, 1) := by decide +kernel
theorem dX11_partsOfFault_0 : decode cX11_partsOfFault 0 = .ok (.aload_n 0, 1) := by decide +kernel
theorem dX11_partsOfFault_1 : decode cX11_partsOfFault 1 = .ok (.iload_n 1, 1) := by decide +kernel
theorem dX11_partsOfFault_2 : decode cX11_partsOfFault 2 = .ok (.invokevirtual 304, 3) := by decide +kernel
theorem dX11_partsOfFault_5 : decode cX11_partsOfFault 5 = .ok (.ifCond .eq 10, 3) := by decide +kernel
theorem dX11_partsOfFault_8 : decode cX11_partsOfFault 8 = .ok (.aload_n 0, 1) := by decide +kernel
theorem dX11_partsOfFault_9 : decode cX11_partsOfFault 9 = .ok (.getfield 285, 3) := by decide +kernel
theorem dX11_partsOfFault_12 : decode cX11_partsOfFault 12 = .ok (.goto 4, 3) := by decide +kernel
theorem dX11_partsOfFault_15 : decode cX11_partsOfFault 15 = .ok (.iconst 0, 1) := by decide +kernel
theorem dX11_partsOfFault_16 : decode cX11_partsOfFault 16 = .ok (.ireturn, 1) := by decide +kernel
theorem dX11_faultsIfUp_0 : decode cX11_faultsIfUp 0 = .ok (.aload_n 0, 1) := by decide +kernel
theorem dX11_faultsIfUp_1 : decode cX11_faultsIfUp 1 = .ok (.iconst 0, 1) := by decide +kernel
theorem dX11_faultsIfUp_2 : decode cX11_faultsIfUp 2 = .ok (.putfield 87, 3) := by decide +kernel
theorem dX11_faultsIfUp_5 : decode cX11_faultsIfUp 5 = .ok (.aload_n 0, 1) := by decide +kernel
theorem dX11_faultsIfUp_6 : decode cX11_faultsIfUp 6 = .ok (.iload_n 1, 1) := by decide +kernel
theorem dX11_faultsIfUp_7 : decode cX11_faultsIfUp 7 = .ok (.iload_n 2, 1) := by decide +kernel
theorem dX11_faultsIfUp_8 : decode cX11_faultsIfUp 8 = .ok (.invokevirtual 134, 3) := by decide +kernel
theorem dX11_faultsIfUp_11 : decode cX11_faultsIfUp 11 = .ok (.ifCond .ne 9, 3) := by decide +kernel
theorem dX11_faultsIfUp_14 : decode cX11_faultsIfUp 14 = .ok (.aload_n 0, 1) := by decide +kernel
theorem dX11_faultsIfUp_15 : decode cX11_faultsIfUp 15 = .ok (.iconst 1, 1) := by decide +kernel
theorem dX11_faultsIfUp_16 : decode cX11_faultsIfUp 16 = .ok (.invokevirtual 115, 3) := by decide +kernel
theorem dX11_faultsIfUp_19 : decode cX11_faultsIfUp 19 = .ok (.ireturn, 1) := by decide +kernel
theorem dX11_faultsIfUp_20 : decode cX11_faultsIfUp 20 = .ok (.aload_n 0, 1) := by decide +kernel
theorem dX11_faultsIfUp_21 : decode cX11_faultsIfUp 21 = .ok (.getfield 24, 3) := by decide +kernel
theorem dX11_faultsIfUp_24 : decode cX11_faultsIfUp 24 = .ok (.iload_n 1, 1) := by decide +kernel
theorem dX11_faultsIfUp_25 : decode cX11_faultsIfUp 25 = .ok (.aaload, 1) := by decide +kernel
theorem dX11_faultsIfUp_26 : decode cX11_faultsIfUp 26 = .ok (.astore_n 3, 1) := by decide +kernel
theorem dX11_faultsIfUp_27 : decode cX11_faultsIfUp 27 = .ok (.aload_n 3, 1) := by decide +kernel
theorem dX11_faultsIfUp_28 : decode cX11_faultsIfUp 28 = .ok (.iload_n 2, 1) := by decide +kernel
theorem dX11_faultsIfUp_29 : decode cX11_faultsIfUp 29 = .ok (.invokevirtual 137, 3) := by decide +kernel
theorem dX11_faultsIfUp_32 : decode cX11_faultsIfUp 32 = .ok (.ifCond .ne 9, 3) := by decide +kernel
theorem dX11_faultsIfUp_35 : decode cX11_faultsIfUp 35 = .ok (.aload_n 0, 1) := by decide +kernel
theorem dX11_faultsIfUp_36 : decode cX11_faultsIfUp 36 = .ok (.iconst 2, 1) := by decide +kernel
theorem dX11_faultsIfUp_37 : decode cX11_faultsIfUp 37 = .ok (.invokevirtual 115, 3) := by decide +kernel
theorem dX11_faultsIfUp_40 : decode cX11_faultsIfUp 40 = .ok (.ireturn, 1) := by decide +kernel
theorem dX11_faultsIfUp_41 : decode cX11_faultsIfUp 41 = .ok (.aload_n 3, 1) := by decide +kernel
theorem dX11_faultsIfUp_42 : decode cX11_faultsIfUp 42 = .ok (.getfield 143, 3) := by decide +kernel
theorem dX11_faultsIfUp_45 : decode cX11_faultsIfUp 45 = .ok (.iload_n 2, 1) := by decide +kernel
theorem dX11_faultsIfUp_46 : decode cX11_faultsIfUp 46 = .ok (.iaload, 1) := by decide +kernel
theorem dX11_faultsIfUp_47 : decode cX11_faultsIfUp 47 = .ok (.bipush 7, 2) := by decide +kernel
theorem dX11_faultsIfUp_49 : decode cX11_faultsIfUp 49 = .ok (.iadd, 1) := by decide +kernel
theorem dX11_faultsIfUp_50 : decode cX11_faultsIfUp 50 = .ok (.bipush 62, 2) := by decide +kernel
theorem dX11_faultsIfUp_52 : decode cX11_faultsIfUp 52 = .ok (.if_icmp .le 5, 3) := by decide +kernel
theorem dX11_faultsIfUp_55 : decode cX11_faultsIfUp 55 = .ok (.iconst (-1), 1) := by decide +kernel
theorem dX11_faultsIfUp_56 : decode cX11_faultsIfUp 56 = .ok (.ireturn, 1) := by decide +kernel
theorem dX11_faultsIfUp_57 : decode cX11_faultsIfUp 57 = .ok (.aload_n 3, 1) := by decide +kernel
theorem dX11_faultsIfUp_58 : decode cX11_faultsIfUp 58 = .ok (.getfield 143, 3) := by decide +kernel
theorem dX11_faultsIfUp_61 : decode cX11_faultsIfUp 61 = .ok (.iload_n 2, 1) := by decide +kernel
theorem dX11_faultsIfUp_62 : decode cX11_faultsIfUp 62 = .ok (.dup2, 1) := by decide +kernel
theorem dX11_faultsIfUp_63 : decode cX11_faultsIfUp 63 = .ok (.iaload, 1) := by decide +kernel
theorem dX11_faultsIfUp_64 : decode cX11_faultsIfUp 64 = .ok (.bipush 7, 2) := by decide +kernel
theorem dX11_faultsIfUp_66 : decode cX11_faultsIfUp 66 = .ok (.iadd, 1) := by decide +kernel
theorem dX11_faultsIfUp_67 : decode cX11_faultsIfUp 67 = .ok (.iastore, 1) := by decide +kernel
theorem dX11_faultsIfUp_68 : decode cX11_faultsIfUp 68 = .ok (.aload_n 0, 1) := by decide +kernel
theorem dX11_faultsIfUp_69 : decode cX11_faultsIfUp 69 = .ok (.iconst (-1), 1) := by decide +kernel
theorem dX11_faultsIfUp_70 : decode cX11_faultsIfUp 70 = .ok (.invokevirtual 301, 3) := by decide +kernel
theorem dX11_faultsIfUp_73 : decode cX11_faultsIfUp 73 = .ok (.istore 4, 2) := by decide +kernel
theorem dX11_faultsIfUp_75 : decode cX11_faultsIfUp 75 = .ok (.aload_n 3, 1) := by decide +kernel
theorem dX11_faultsIfUp_76 : decode cX11_faultsIfUp 76 = .ok (.getfield 143, 3) := by decide +kernel
theorem dX11_faultsIfUp_79 : decode cX11_faultsIfUp 79 = .ok (.iload_n 2, 1) := by decide +kernel
theorem dX11_faultsIfUp_80 : decode cX11_faultsIfUp 80 = .ok (.dup2, 1) := by decide +kernel
theorem dX11_faultsIfUp_81 : decode cX11_faultsIfUp 81 = .ok (.iaload, 1) := by decide +kernel
theorem dX11_faultsIfUp_82 : decode cX11_faultsIfUp 82 = .ok (.bipush 7, 2) := by decide +kernel
theorem dX11_faultsIfUp_84 : decode cX11_faultsIfUp 84 = .ok (.isub, 1) := by decide +kernel
theorem dX11_faultsIfUp_85 : decode cX11_faultsIfUp 85 = .ok (.iastore, 1) := by decide +kernel
theorem dX11_faultsIfUp_86 : decode cX11_faultsIfUp 86 = .ok (.iload 4, 2) := by decide +kernel
theorem dX11_faultsIfUp_88 : decode cX11_faultsIfUp 88 = .ok (.ireturn, 1) := by decide +kernel
theorem dX11_barsNow_0 : decode cX11_barsNow 0 = .ok (.iconst 0, 1) := by decide +kernel
theorem dX11_barsNow_1 : decode cX11_barsNow 1 = .ok (.istore_n 1, 1) := by decide +kernel
theorem dX11_barsNow_2 : decode cX11_barsNow 2 = .ok (.aload_n 0, 1) := by decide +kernel
theorem dX11_barsNow_3 : decode cX11_barsNow 3 = .ok (.getfield 24, 3) := by decide +kernel
theorem dX11_barsNow_6 : decode cX11_barsNow 6 = .ok (.astore_n 2, 1) := by decide +kernel
theorem dX11_barsNow_7 : decode cX11_barsNow 7 = .ok (.aload_n 2, 1) := by decide +kernel
theorem dX11_barsNow_8 : decode cX11_barsNow 8 = .ok (.arraylength, 1) := by decide +kernel
theorem dX11_barsNow_9 : decode cX11_barsNow 9 = .ok (.istore_n 3, 1) := by decide +kernel
theorem dX11_barsNow_10 : decode cX11_barsNow 10 = .ok (.iconst 0, 1) := by decide +kernel
theorem dX11_barsNow_11 : decode cX11_barsNow 11 = .ok (.istore 4, 2) := by decide +kernel
theorem dX11_barsNow_13 : decode cX11_barsNow 13 = .ok (.iload 4, 2) := by decide +kernel
theorem dX11_barsNow_15 : decode cX11_barsNow 15 = .ok (.iload_n 3, 1) := by decide +kernel
theorem dX11_barsNow_16 : decode cX11_barsNow 16 = .ok (.if_icmp .ge 25, 3) := by decide +kernel
theorem dX11_barsNow_19 : decode cX11_barsNow 19 = .ok (.aload_n 2, 1) := by decide +kernel
theorem dX11_barsNow_20 : decode cX11_barsNow 20 = .ok (.iload 4, 2) := by decide +kernel
theorem dX11_barsNow_22 : decode cX11_barsNow 22 = .ok (.aaload, 1) := by decide +kernel
theorem dX11_barsNow_23 : decode cX11_barsNow 23 = .ok (.astore 5, 2) := by decide +kernel
theorem dX11_barsNow_25 : decode cX11_barsNow 25 = .ok (.iload_n 1, 1) := by decide +kernel
theorem dX11_barsNow_26 : decode cX11_barsNow 26 = .ok (.aload 5, 2) := by decide +kernel
theorem dX11_barsNow_28 : decode cX11_barsNow 28 = .ok (.invokevirtual 109, 3) := by decide +kernel
theorem dX11_barsNow_31 : decode cX11_barsNow 31 = .ok (.invokestatic 205, 3) := by decide +kernel
theorem dX11_barsNow_34 : decode cX11_barsNow 34 = .ok (.istore_n 1, 1) := by decide +kernel
theorem dX11_barsNow_35 : decode cX11_barsNow 35 = .ok (.iinc 4 1, 3) := by decide +kernel
theorem dX11_barsNow_38 : decode cX11_barsNow 38 = .ok (.goto (-25), 3) := by decide +kernel
theorem dX11_barsNow_41 : decode cX11_barsNow 41 = .ok (.iload_n 1, 1) := by decide +kernel
theorem dX11_barsNow_42 : decode cX11_barsNow 42 = .ok (.ifCond .ne 5, 3) := by decide +kernel
theorem dX11_barsNow_45 : decode cX11_barsNow 45 = .ok (.iconst 0, 1) := by decide +kernel
theorem dX11_barsNow_46 : decode cX11_barsNow 46 = .ok (.ireturn, 1) := by decide +kernel
theorem dX11_barsNow_47 : decode cX11_barsNow 47 = .ok (.aload_n 0, 1) := by decide +kernel
theorem dX11_barsNow_48 : decode cX11_barsNow 48 = .ok (.iload_n 1, 1) := by decide +kernel
theorem dX11_barsNow_49 : decode cX11_barsNow 49 = .ok (.iconst 1, 1) := by decide +kernel
theorem dX11_barsNow_50 : decode cX11_barsNow 50 = .ok (.isub, 1) := by decide +kernel
theorem dX11_barsNow_51 : decode cX11_barsNow 51 = .ok (.invokevirtual 175, 3) := by decide +kernel
theorem dX11_barsNow_54 : decode cX11_barsNow 54 = .ok (.istore_n 2, 1) := by decide +kernel
theorem dX11_barsNow_55 : decode cX11_barsNow 55 = .ok (.iload_n 2, 1) := by decide +kernel
theorem dX11_barsNow_56 : decode cX11_barsNow 56 = .ok (.iconst (-1), 1) := by decide +kernel
theorem dX11_barsNow_57 : decode cX11_barsNow 57 = .ok (.if_icmp .ne 8, 3) := by decide +kernel
theorem dX11_barsNow_60 : decode cX11_barsNow 60 = .ok (.bipush 24, 2) := by decide +kernel
theorem dX11_barsNow_62 : decode cX11_barsNow 62 = .ok (.goto 6, 3) := by decide +kernel
theorem dX11_barsNow_65 : decode cX11_barsNow 65 = .ok (.iload_n 2, 1) := by decide +kernel
theorem dX11_barsNow_66 : decode cX11_barsNow 66 = .ok (.iconst 1, 1) := by decide +kernel
theorem dX11_barsNow_67 : decode cX11_barsNow 67 = .ok (.iadd, 1) := by decide +kernel
theorem dX11_barsNow_68 : decode cX11_barsNow 68 = .ok (.ireturn, 1) := by decide +kernel
theorem dX11_bars_0 : decode cX11_bars 0 = .ok (.aload_n 0, 1) := by decide +kernel
theorem dX11_bars_1 : decode cX11_bars 1 = .ok (.iconst 0, 1) := by decide +kernel
theorem dX11_bars_2 : decode cX11_bars 2 = .ok (.putfield 87, 3) := by decide +kernel
theorem dX11_bars_5 : decode cX11_bars 5 = .ok (.aload_n 0, 1) := by decide +kernel
theorem dX11_bars_6 : decode cX11_bars 6 = .ok (.invokevirtual 307, 3) := by decide +kernel
theorem dX11_bars_9 : decode cX11_bars 9 = .ok (.ireturn, 1) := by decide +kernel
theorem dX11_width_0 : decode cX11_width 0 = .ok (.aload_n 0, 1) := by decide +kernel
theorem dX11_width_1 : decode cX11_width 1 = .ok (.iload_n 1, 1) := by decide +kernel
theorem dX11_width_2 : decode cX11_width 2 = .ok (.invokevirtual 112, 3) := by decide +kernel
theorem dX11_width_5 : decode cX11_width 5 = .ok (.istore_n 2, 1) := by decide +kernel
theorem dX11_width_6 : decode cX11_width 6 = .ok (.iload_n 2, 1) := by decide +kernel
theorem dX11_width_7 : decode cX11_width 7 = .ok (.aload_n 0, 1) := by decide +kernel
theorem dX11_width_8 : decode cX11_width 8 = .ok (.iload_n 1, 1) := by decide +kernel
theorem dX11_width_9 : decode cX11_width 9 = .ok (.invokevirtual 105, 3) := by decide +kernel
theorem dX11_width_12 : decode cX11_width 12 = .ok (.iadd, 1) := by decide +kernel
theorem dX11_width_13 : decode cX11_width 13 = .ok (.istore_n 3, 1) := by decide +kernel
theorem dX11_width_14 : decode cX11_width 14 = .ok (.iconst 3, 1) := by decide +kernel
theorem dX11_width_15 : decode cX11_width 15 = .ok (.aload_n 0, 1) := by decide +kernel
theorem dX11_width_16 : decode cX11_width 16 = .ok (.getfield 34, 3) := by decide +kernel
theorem dX11_width_19 : decode cX11_width 19 = .ok (.iload_n 1, 1) := by decide +kernel
theorem dX11_width_20 : decode cX11_width 20 = .ok (.iaload, 1) := by decide +kernel
theorem dX11_width_21 : decode cX11_width 21 = .ok (.invokestatic 190, 3) := by decide +kernel
theorem dX11_width_24 : decode cX11_width 24 = .ok (.iconst 3, 1) := by decide +kernel
theorem dX11_width_25 : decode cX11_width 25 = .ok (.iadd, 1) := by decide +kernel
theorem dX11_width_26 : decode cX11_width 26 = .ok (.iconst 4, 1) := by decide +kernel
theorem dX11_width_27 : decode cX11_width 27 = .ok (.idiv, 1) := by decide +kernel
theorem dX11_width_28 : decode cX11_width 28 = .ok (.iadd, 1) := by decide +kernel
theorem dX11_width_29 : decode cX11_width 29 = .ok (.istore 4, 2) := by decide +kernel
theorem dX11_width_31 : decode cX11_width 31 = .ok (.iload_n 2, 1) := by decide +kernel
theorem dX11_width_32 : decode cX11_width 32 = .ok (.istore 5, 2) := by decide +kernel
theorem dX11_width_34 : decode cX11_width 34 = .ok (.iload 5, 2) := by decide +kernel
theorem dX11_width_36 : decode cX11_width 36 = .ok (.iload_n 3, 1) := by decide +kernel
theorem dX11_width_37 : decode cX11_width 37 = .ok (.if_icmp .ge 133, 3) := by decide +kernel
theorem dX11_width_40 : decode cX11_width 40 = .ok (.iload_n 3, 1) := by decide +kernel
theorem dX11_width_41 : decode cX11_width 41 = .ok (.istore 6, 2) := by decide +kernel
theorem dX11_width_43 : decode cX11_width 43 = .ok (.aload_n 0, 1) := by decide +kernel
theorem dX11_width_44 : decode cX11_width 44 = .ok (.getfield 24, 3) := by decide +kernel
theorem dX11_width_47 : decode cX11_width 47 = .ok (.astore 7, 2) := by decide +kernel
theorem dX11_width_49 : decode cX11_width 49 = .ok (.aload 7, 2) := by decide +kernel
theorem dX11_width_51 : decode cX11_width 51 = .ok (.arraylength, 1) := by decide +kernel
theorem dX11_width_52 : decode cX11_width 52 = .ok (.istore 8, 2) := by decide +kernel
theorem dX11_width_54 : decode cX11_width 54 = .ok (.iconst 0, 1) := by decide +kernel
theorem dX11_width_55 : decode cX11_width 55 = .ok (.istore 9, 2) := by decide +kernel
theorem dX11_width_57 : decode cX11_width 57 = .ok (.iload 9, 2) := by decide +kernel
theorem dX11_width_59 : decode cX11_width 59 = .ok (.iload 8, 2) := by decide +kernel
theorem dX11_width_61 : decode cX11_width 61 = .ok (.if_icmp .ge 71, 3) := by decide +kernel
theorem dX11_width_64 : decode cX11_width 64 = .ok (.aload 7, 2) := by decide +kernel
theorem dX11_width_66 : decode cX11_width 66 = .ok (.iload 9, 2) := by decide +kernel
theorem dX11_width_68 : decode cX11_width 68 = .ok (.aaload, 1) := by decide +kernel
theorem dX11_width_69 : decode cX11_width 69 = .ok (.astore 10, 2) := by decide +kernel
theorem dX11_width_71 : decode cX11_width 71 = .ok (.iconst 0, 1) := by decide +kernel
theorem dX11_width_72 : decode cX11_width 72 = .ok (.istore 11, 2) := by decide +kernel
theorem dX11_width_74 : decode cX11_width 74 = .ok (.iload 11, 2) := by decide +kernel
theorem dX11_width_76 : decode cX11_width 76 = .ok (.aload 10, 2) := by decide +kernel
theorem dX11_width_78 : decode cX11_width 78 = .ok (.getfield 99, 3) := by decide +kernel
theorem dX11_width_81 : decode cX11_width 81 = .ok (.if_icmp .ge 45, 3) := by decide +kernel
theorem dX11_width_84 : decode cX11_width 84 = .ok (.aload 10, 2) := by decide +kernel
theorem dX11_width_86 : decode cX11_width 86 = .ok (.getfield 170, 3) := by decide +kernel
theorem dX11_width_89 : decode cX11_width 89 = .ok (.iload 11, 2) := by decide +kernel
theorem dX11_width_91 : decode cX11_width 91 = .ok (.iaload, 1) := by decide +kernel
theorem dX11_width_92 : decode cX11_width 92 = .ok (.iload 6, 2) := by decide +kernel
theorem dX11_width_94 : decode cX11_width 94 = .ok (.if_icmp .ge 32, 3) := by decide +kernel
theorem dX11_width_97 : decode cX11_width 97 = .ok (.aload 10, 2) := by decide +kernel
theorem dX11_width_99 : decode cX11_width 99 = .ok (.getfield 170, 3) := by decide +kernel
theorem dX11_width_102 : decode cX11_width 102 = .ok (.iload 11, 2) := by decide +kernel
theorem dX11_width_104 : decode cX11_width 104 = .ok (.iaload, 1) := by decide +kernel
theorem dX11_width_105 : decode cX11_width 105 = .ok (.iload 5, 2) := by decide +kernel
theorem dX11_width_107 : decode cX11_width 107 = .ok (.if_icmp .le 13, 3) := by decide +kernel
theorem dX11_width_110 : decode cX11_width 110 = .ok (.aload 10, 2) := by decide +kernel
theorem dX11_width_112 : decode cX11_width 112 = .ok (.getfield 170, 3) := by decide +kernel
theorem dX11_width_115 : decode cX11_width 115 = .ok (.iload 11, 2) := by decide +kernel
theorem dX11_width_117 : decode cX11_width 117 = .ok (.iaload, 1) := by decide +kernel
theorem dX11_width_118 : decode cX11_width 118 = .ok (.istore 6, 2) := by decide +kernel
theorem dX11_width_120 : decode cX11_width 120 = .ok (.iinc 11 1, 3) := by decide +kernel
theorem dX11_width_123 : decode cX11_width 123 = .ok (.goto (-49), 3) := by decide +kernel
theorem dX11_width_126 : decode cX11_width 126 = .ok (.iinc 9 1, 3) := by decide +kernel
theorem dX11_width_129 : decode cX11_width 129 = .ok (.goto (-72), 3) := by decide +kernel
theorem dX11_width_132 : decode cX11_width 132 = .ok (.iconst 0, 1) := by decide +kernel
theorem dX11_width_133 : decode cX11_width 133 = .ok (.istore 7, 2) := by decide +kernel
theorem dX11_width_135 : decode cX11_width 135 = .ok (.iload 6, 2) := by decide +kernel
theorem dX11_width_137 : decode cX11_width 137 = .ok (.iload 5, 2) := by decide +kernel
theorem dX11_width_139 : decode cX11_width 139 = .ok (.isub, 1) := by decide +kernel
theorem dX11_width_140 : decode cX11_width 140 = .ok (.iload 7, 2) := by decide +kernel
theorem dX11_width_142 : decode cX11_width 142 = .ok (.iconst 1, 1) := by decide +kernel
theorem dX11_width_143 : decode cX11_width 143 = .ok (.iadd, 1) := by decide +kernel
theorem dX11_width_144 : decode cX11_width 144 = .ok (.ishr, 1) := by decide +kernel
theorem dX11_width_145 : decode cX11_width 145 = .ok (.ifCond .le 9, 3) := by decide +kernel
theorem dX11_width_148 : decode cX11_width 148 = .ok (.iinc 7 1, 3) := by decide +kernel
theorem dX11_width_151 : decode cX11_width 151 = .ok (.goto (-16), 3) := by decide +kernel
theorem dX11_width_154 : decode cX11_width 154 = .ok (.iload 4, 2) := by decide +kernel
theorem dX11_width_156 : decode cX11_width 156 = .ok (.iconst 2, 1) := by decide +kernel
theorem dX11_width_157 : decode cX11_width 157 = .ok (.iload 7, 2) := by decide +kernel
theorem dX11_width_159 : decode cX11_width 159 = .ok (.iadd, 1) := by decide +kernel
theorem dX11_width_160 : decode cX11_width 160 = .ok (.iadd, 1) := by decide +kernel
theorem dX11_width_161 : decode cX11_width 161 = .ok (.istore 4, 2) := by decide +kernel
theorem dX11_width_163 : decode cX11_width 163 = .ok (.iload 6, 2) := by decide +kernel
theorem dX11_width_165 : decode cX11_width 165 = .ok (.istore 5, 2) := by decide +kernel
theorem dX11_width_167 : decode cX11_width 167 = .ok (.goto (-133), 3) := by decide +kernel
theorem dX11_width_170 : decode cX11_width 170 = .ok (.iload 4, 2) := by decide +kernel
theorem dX11_width_172 : decode cX11_width 172 = .ok (.ireturn, 1) := by decide +kernel
theorem dX11_widthOf_0 : decode cX11_widthOf 0 = .ok (.aload_n 0, 1) := by decide +kernel
theorem dX11_widthOf_1 : decode cX11_widthOf 1 = .ok (.iconst 0, 1) := by decide +kernel
theorem dX11_widthOf_2 : decode cX11_widthOf 2 = .ok (.putfield 87, 3) := by decide +kernel
theorem dX11_widthOf_5 : decode cX11_widthOf 5 = .ok (.iload_n 1, 1) := by decide +kernel
theorem dX11_widthOf_6 : decode cX11_widthOf 6 = .ok (.invokestatic 149, 3) := by decide +kernel
theorem dX11_widthOf_9 : decode cX11_widthOf 9 = .ok (.ifCond .eq 11, 3) := by decide +kernel
theorem dX11_widthOf_12 : decode cX11_widthOf 12 = .ok (.aload_n 0, 1) := by decide +kernel
theorem dX11_widthOf_13 : decode cX11_widthOf 13 = .ok (.iload_n 1, 1) := by decide +kernel
theorem dX11_widthOf_14 : decode cX11_widthOf 14 = .ok (.invokevirtual 310, 3) := by decide +kernel
theorem dX11_widthOf_17 : decode cX11_widthOf 17 = .ok (.goto 8, 3) := by decide +kernel
theorem dX11_widthOf_20 : decode cX11_widthOf 20 = .ok (.aload_n 0, 1) := by decide +kernel
theorem dX11_widthOf_21 : decode cX11_widthOf 21 = .ok (.iconst 1, 1) := by decide +kernel
theorem dX11_widthOf_22 : decode cX11_widthOf 22 = .ok (.invokevirtual 115, 3) := by decide +kernel
theorem dX11_widthOf_25 : decode cX11_widthOf 25 = .ok (.ireturn, 1) := by decide +kernel
theorem dX11_breakLines_0 : decode cX11_breakLines 0 = .ok (.aload_n 0, 1) := by decide +kernel
theorem dX11_breakLines_1 : decode cX11_breakLines 1 = .ok (.invokevirtual 307, 3) := by decide +kernel
theorem dX11_breakLines_4 : decode cX11_breakLines 4 = .ok (.istore_n 2, 1) := by decide +kernel
theorem dX11_breakLines_5 : decode cX11_breakLines 5 = .ok (.iconst 0, 1) := by decide +kernel
theorem dX11_breakLines_6 : decode cX11_breakLines 6 = .ok (.istore_n 3, 1) := by decide +kernel
theorem dX11_breakLines_7 : decode cX11_breakLines 7 = .ok (.iload_n 3, 1) := by decide +kernel
theorem dX11_breakLines_8 : decode cX11_breakLines 8 = .ok (.iload_n 2, 1) := by decide +kernel
theorem dX11_breakLines_9 : decode cX11_breakLines 9 = .ok (.if_icmp .ge 20, 3) := by decide +kernel
theorem dX11_breakLines_12 : decode cX11_breakLines 12 = .ok (.aload_n 0, 1) := by decide +kernel
theorem dX11_breakLines_13 : decode cX11_breakLines 13 = .ok (.getfield 71, 3) := by decide +kernel
theorem dX11_breakLines_16 : decode cX11_breakLines 16 = .ok (.iload_n 3, 1) := by decide +kernel
theorem dX11_breakLines_17 : decode cX11_breakLines 17 = .ok (.aload_n 0, 1) := by decide +kernel
theorem dX11_breakLines_18 : decode cX11_breakLines 18 = .ok (.iload_n 3, 1) := by decide +kernel
theorem dX11_breakLines_19 : decode cX11_breakLines 19 = .ok (.invokevirtual 310, 3) := by decide +kernel
theorem dX11_breakLines_22 : decode cX11_breakLines 22 = .ok (.iastore, 1) := by decide +kernel
theorem dX11_breakLines_23 : decode cX11_breakLines 23 = .ok (.iinc 3 1, 3) := by decide +kernel
theorem dX11_breakLines_26 : decode cX11_breakLines 26 = .ok (.goto (-19), 3) := by decide +kernel
theorem dX11_breakLines_29 : decode cX11_breakLines 29 = .ok (.aload_n 0, 1) := by decide +kernel
theorem dX11_breakLines_30 : decode cX11_breakLines 30 = .ok (.getfield 74, 3) := by decide +kernel
theorem dX11_breakLines_33 : decode cX11_breakLines 33 = .ok (.iload_n 2, 1) := by decide +kernel
theorem dX11_breakLines_34 : decode cX11_breakLines 34 = .ok (.iconst 0, 1) := by decide +kernel
theorem dX11_breakLines_35 : decode cX11_breakLines 35 = .ok (.iastore, 1) := by decide +kernel
theorem dX11_breakLines_36 : decode cX11_breakLines 36 = .ok (.iload_n 2, 1) := by decide +kernel
theorem dX11_breakLines_37 : decode cX11_breakLines 37 = .ok (.iconst 1, 1) := by decide +kernel
theorem dX11_breakLines_38 : decode cX11_breakLines 38 = .ok (.isub, 1) := by decide +kernel
theorem dX11_breakLines_39 : decode cX11_breakLines 39 = .ok (.istore_n 3, 1) := by decide +kernel
theorem dX11_breakLines_40 : decode cX11_breakLines 40 = .ok (.iload_n 3, 1) := by decide +kernel
theorem dX11_breakLines_41 : decode cX11_breakLines 41 = .ok (.ifCond .lt 116, 3) := by decide +kernel
theorem dX11_breakLines_44 : decode cX11_breakLines 44 = .ok (.iconst 0, 1) := by decide +kernel
theorem dX11_breakLines_45 : decode cX11_breakLines 45 = .ok (.istore 4, 2) := by decide +kernel
theorem dX11_breakLines_47 : decode cX11_breakLines 47 = .ok (.aload_n 0, 1) := by decide +kernel
theorem dX11_breakLines_48 : decode cX11_breakLines 48 = .ok (.getfield 74, 3) := by decide +kernel
theorem dX11_breakLines_51 : decode cX11_breakLines 51 = .ok (.iload_n 3, 1) := by decide +kernel
theorem dX11_breakLines_52 : decode cX11_breakLines 52 = .ok (.ldc 244, 2) := by decide +kernel
theorem dX11_breakLines_54 : decode cX11_breakLines 54 = .ok (.iastore, 1) := by decide +kernel
theorem dX11_breakLines_55 : decode cX11_breakLines 55 = .ok (.iload_n 3, 1) := by decide +kernel
theorem dX11_breakLines_56 : decode cX11_breakLines 56 = .ok (.iconst 1, 1) := by decide +kernel
theorem dX11_breakLines_57 : decode cX11_breakLines 57 = .ok (.iadd, 1) := by decide +kernel
theorem dX11_breakLines_58 : decode cX11_breakLines 58 = .ok (.istore 5, 2) := by decide +kernel
theorem dX11_breakLines_60 : decode cX11_breakLines 60 = .ok (.iload 5, 2) := by decide +kernel
theorem dX11_breakLines_62 : decode cX11_breakLines 62 = .ok (.iload_n 2, 1) := by decide +kernel
theorem dX11_breakLines_63 : decode cX11_breakLines 63 = .ok (.if_icmp .gt 88, 3) := by decide +kernel
theorem dX11_breakLines_66 : decode cX11_breakLines 66 = .ok (.iload 4, 2) := by decide +kernel
theorem dX11_breakLines_68 : decode cX11_breakLines 68 = .ok (.aload_n 0, 1) := by decide +kernel
theorem dX11_breakLines_69 : decode cX11_breakLines 69 = .ok (.getfield 71, 3) := by decide +kernel
theorem dX11_breakLines_72 : decode cX11_breakLines 72 = .ok (.iload 5, 2) := by decide +kernel
theorem dX11_breakLines_74 : decode cX11_breakLines 74 = .ok (.iconst 1, 1) := by decide +kernel
theorem dX11_breakLines_75 : decode cX11_breakLines 75 = .ok (.isub, 1) := by decide +kernel
theorem dX11_breakLines_76 : decode cX11_breakLines 76 = .ok (.iaload, 1) := by decide +kernel
theorem dX11_breakLines_77 : decode cX11_breakLines 77 = .ok (.iadd, 1) := by decide +kernel
theorem dX11_breakLines_78 : decode cX11_breakLines 78 = .ok (.istore 4, 2) := by decide +kernel
theorem dX11_breakLines_80 : decode cX11_breakLines 80 = .ok (.aload_n 0, 1) := by decide +kernel
theorem dX11_breakLines_81 : decode cX11_breakLines 81 = .ok (.getfield 74, 3) := by decide +kernel
theorem dX11_breakLines_84 : decode cX11_breakLines 84 = .ok (.iload 5, 2) := by decide +kernel
theorem dX11_breakLines_86 : decode cX11_breakLines 86 = .ok (.iaload, 1) := by decide +kernel
theorem dX11_breakLines_87 : decode cX11_breakLines 87 = .ok (.iload 5, 2) := by decide +kernel
theorem dX11_breakLines_89 : decode cX11_breakLines 89 = .ok (.iload_n 2, 1) := by decide +kernel
theorem dX11_breakLines_90 : decode cX11_breakLines 90 = .ok (.if_icmp .ne 13, 3) := by decide +kernel
theorem dX11_breakLines_93 : decode cX11_breakLines 93 = .ok (.iload 4, 2) := by decide +kernel
theorem dX11_breakLines_95 : decode cX11_breakLines 95 = .ok (.iload_n 1, 1) := by decide +kernel
theorem dX11_breakLines_96 : decode cX11_breakLines 96 = .ok (.if_icmp .gt 7, 3) := by decide +kernel
theorem dX11_breakLines_99 : decode cX11_breakLines 99 = .ok (.iconst 0, 1) := by decide +kernel
theorem dX11_breakLines_100 : decode cX11_breakLines 100 = .ok (.goto 12, 3) := by decide +kernel
theorem dX11_breakLines_103 : decode cX11_breakLines 103 = .ok (.iload_n 1, 1) := by decide +kernel
theorem dX11_breakLines_104 : decode cX11_breakLines 104 = .ok (.iload 4, 2) := by decide +kernel
theorem dX11_breakLines_106 : decode cX11_breakLines 106 = .ok (.isub, 1) := by decide +kernel
theorem dX11_breakLines_107 : decode cX11_breakLines 107 = .ok (.iload_n 1, 1) := by decide +kernel
theorem dX11_breakLines_108 : decode cX11_breakLines 108 = .ok (.iload 4, 2) := by decide +kernel
theorem dX11_breakLines_110 : decode cX11_breakLines 110 = .ok (.isub, 1) := by decide +kernel
theorem dX11_breakLines_111 : decode cX11_breakLines 111 = .ok (.imul, 1) := by decide +kernel
theorem dX11_breakLines_112 : decode cX11_breakLines 112 = .ok (.iadd, 1) := by decide +kernel
theorem dX11_breakLines_113 : decode cX11_breakLines 113 = .ok (.istore 6, 2) := by decide +kernel
theorem dX11_breakLines_115 : decode cX11_breakLines 115 = .ok (.iload 6, 2) := by decide +kernel
theorem dX11_breakLines_117 : decode cX11_breakLines 117 = .ok (.aload_n 0, 1) := by decide +kernel
theorem dX11_breakLines_118 : decode cX11_breakLines 118 = .ok (.getfield 74, 3) := by decide +kernel
theorem dX11_breakLines_121 : decode cX11_breakLines 121 = .ok (.iload_n 3, 1) := by decide +kernel
theorem dX11_breakLines_122 : decode cX11_breakLines 122 = .ok (.iaload, 1) := by decide +kernel
theorem dX11_breakLines_123 : decode cX11_breakLines 123 = .ok (.if_icmp .le 6, 3) := by decide +kernel
theorem dX11_breakLines_126 : decode cX11_breakLines 126 = .ok (.goto 19, 3) := by decide +kernel
theorem dX11_breakLines_129 : decode cX11_breakLines 129 = .ok (.aload_n 0, 1) := by decide +kernel
theorem dX11_breakLines_130 : decode cX11_breakLines 130 = .ok (.getfield 74, 3) := by decide +kernel
theorem dX11_breakLines_133 : decode cX11_breakLines 133 = .ok (.iload_n 3, 1) := by decide +kernel
theorem dX11_breakLines_134 : decode cX11_breakLines 134 = .ok (.iload 6, 2) := by decide +kernel
theorem dX11_breakLines_136 : decode cX11_breakLines 136 = .ok (.iastore, 1) := by decide +kernel
theorem dX11_breakLines_137 : decode cX11_breakLines 137 = .ok (.aload_n 0, 1) := by decide +kernel
theorem dX11_breakLines_138 : decode cX11_breakLines 138 = .ok (.getfield 77, 3) := by decide +kernel
theorem dX11_breakLines_141 : decode cX11_breakLines 141 = .ok (.iload_n 3, 1) := by decide +kernel
theorem dX11_breakLines_142 : decode cX11_breakLines 142 = .ok (.iload 5, 2) := by decide +kernel
theorem dX11_breakLines_144 : decode cX11_breakLines 144 = .ok (.iastore, 1) := by decide +kernel
theorem dX11_breakLines_145 : decode cX11_breakLines 145 = .ok (.iinc 5 1, 3) := by decide +kernel
theorem dX11_breakLines_148 : decode cX11_breakLines 148 = .ok (.goto (-88), 3) := by decide +kernel
theorem dX11_breakLines_151 : decode cX11_breakLines 151 = .ok (.iinc 3 (-1), 3) := by decide +kernel
theorem dX11_breakLines_154 : decode cX11_breakLines 154 = .ok (.goto (-114), 3) := by decide +kernel
theorem dX11_breakLines_157 : decode cX11_breakLines 157 = .ok (.iload_n 2, 1) := by decide +kernel
theorem dX11_breakLines_158 : decode cX11_breakLines 158 = .ok (.ireturn, 1) := by decide +kernel
theorem dX11_linesNow_0 : decode cX11_linesNow 0 = .ok (.aload_n 0, 1) := by decide +kernel
theorem dX11_linesNow_1 : decode cX11_linesNow 1 = .ok (.iload_n 1, 1) := by decide +kernel
theorem dX11_linesNow_2 : decode cX11_linesNow 2 = .ok (.invokevirtual 313, 3) := by decide +kernel
theorem dX11_linesNow_5 : decode cX11_linesNow 5 = .ok (.istore_n 2, 1) := by decide +kernel
theorem dX11_linesNow_6 : decode cX11_linesNow 6 = .ok (.iconst 0, 1) := by decide +kernel
theorem dX11_linesNow_7 : decode cX11_linesNow 7 = .ok (.istore_n 3, 1) := by decide +kernel
theorem dX11_linesNow_8 : decode cX11_linesNow 8 = .ok (.iconst 0, 1) := by decide +kernel
theorem dX11_linesNow_9 : decode cX11_linesNow 9 = .ok (.istore 4, 2) := by decide +kernel
theorem dX11_linesNow_11 : decode cX11_linesNow 11 = .ok (.iload 4, 2) := by decide +kernel
theorem dX11_linesNow_13 : decode cX11_linesNow 13 = .ok (.iload_n 2, 1) := by decide +kernel
theorem dX11_linesNow_14 : decode cX11_linesNow 14 = .ok (.if_icmp .ge 18, 3) := by decide +kernel
theorem dX11_linesNow_17 : decode cX11_linesNow 17 = .ok (.iinc 3 1, 3) := by decide +kernel
theorem dX11_linesNow_20 : decode cX11_linesNow 20 = .ok (.aload_n 0, 1) := by decide +kernel
theorem dX11_linesNow_21 : decode cX11_linesNow 21 = .ok (.getfield 77, 3) := by decide +kernel
theorem dX11_linesNow_24 : decode cX11_linesNow 24 = .ok (.iload 4, 2) := by decide +kernel
theorem dX11_linesNow_26 : decode cX11_linesNow 26 = .ok (.iaload, 1) := by decide +kernel
theorem dX11_linesNow_27 : decode cX11_linesNow 27 = .ok (.istore 4, 2) := by decide +kernel
theorem dX11_linesNow_29 : decode cX11_linesNow 29 = .ok (.goto (-18), 3) := by decide +kernel
theorem dX11_linesNow_32 : decode cX11_linesNow 32 = .ok (.iload_n 3, 1) := by decide +kernel
theorem dX11_linesNow_33 : decode cX11_linesNow 33 = .ok (.ireturn, 1) := by decide +kernel
theorem dX11_lines_0 : decode cX11_lines 0 = .ok (.aload_n 0, 1) := by decide +kernel
theorem dX11_lines_1 : decode cX11_lines 1 = .ok (.iconst 0, 1) := by decide +kernel
theorem dX11_lines_2 : decode cX11_lines 2 = .ok (.putfield 87, 3) := by decide +kernel
theorem dX11_lines_5 : decode cX11_lines 5 = .ok (.iload_n 1, 1) := by decide +kernel
theorem dX11_lines_6 : decode cX11_lines 6 = .ok (.bipush 10, 2) := by decide +kernel
theorem dX11_lines_8 : decode cX11_lines 8 = .ok (.sipush 400, 3) := by decide +kernel
theorem dX11_lines_11 : decode cX11_lines 11 = .ok (.invokestatic 91, 3) := by decide +kernel
theorem dX11_lines_14 : decode cX11_lines 14 = .ok (.ifCond .eq 11, 3) := by decide +kernel
theorem dX11_lines_17 : decode cX11_lines 17 = .ok (.aload_n 0, 1) := by decide +kernel
theorem dX11_lines_18 : decode cX11_lines 18 = .ok (.iload_n 1, 1) := by decide +kernel
theorem dX11_lines_19 : decode cX11_lines 19 = .ok (.invokevirtual 316, 3) := by decide +kernel
theorem dX11_lines_22 : decode cX11_lines 22 = .ok (.goto 8, 3) := by decide +kernel
theorem dX11_lines_25 : decode cX11_lines 25 = .ok (.aload_n 0, 1) := by decide +kernel
theorem dX11_lines_26 : decode cX11_lines 26 = .ok (.iconst 1, 1) := by decide +kernel
theorem dX11_lines_27 : decode cX11_lines 27 = .ok (.invokevirtual 115, 3) := by decide +kernel
theorem dX11_lines_30 : decode cX11_lines 30 = .ok (.ireturn, 1) := by decide +kernel
theorem dX11_lineOf_0 : decode cX11_lineOf 0 = .ok (.aload_n 0, 1) := by decide +kernel
theorem dX11_lineOf_1 : decode cX11_lineOf 1 = .ok (.iconst 0, 1) := by decide +kernel
theorem dX11_lineOf_2 : decode cX11_lineOf 2 = .ok (.putfield 87, 3) := by decide +kernel
theorem dX11_lineOf_5 : decode cX11_lineOf 5 = .ok (.iload_n 2, 1) := by decide +kernel
theorem dX11_lineOf_6 : decode cX11_lineOf 6 = .ok (.invokestatic 149, 3) := by decide +kernel
theorem dX11_lineOf_9 : decode cX11_lineOf 9 = .ok (.ifCond .ne 9, 3) := by decide +kernel
theorem dX11_lineOf_12 : decode cX11_lineOf 12 = .ok (.aload_n 0, 1) := by decide +kernel
theorem dX11_lineOf_13 : decode cX11_lineOf 13 = .ok (.iconst 1, 1) := by decide +kernel
theorem dX11_lineOf_14 : decode cX11_lineOf 14 = .ok (.invokevirtual 115, 3) := by decide +kernel
theorem dX11_lineOf_17 : decode cX11_lineOf 17 = .ok (.ireturn, 1) := by decide +kernel
theorem dX11_lineOf_18 : decode cX11_lineOf 18 = .ok (.iload_n 1, 1) := by decide +kernel
theorem dX11_lineOf_19 : decode cX11_lineOf 19 = .ok (.bipush 10, 2) := by decide +kernel
theorem dX11_lineOf_21 : decode cX11_lineOf 21 = .ok (.sipush 400, 3) := by decide +kernel
theorem dX11_lineOf_24 : decode cX11_lineOf 24 = .ok (.invokestatic 91, 3) := by decide +kernel
theorem dX11_lineOf_27 : decode cX11_lineOf 27 = .ok (.ifCond .ne 9, 3) := by decide +kernel
theorem dX11_lineOf_30 : decode cX11_lineOf 30 = .ok (.aload_n 0, 1) := by decide +kernel
theorem dX11_lineOf_31 : decode cX11_lineOf 31 = .ok (.iconst 2, 1) := by decide +kernel
theorem dX11_lineOf_32 : decode cX11_lineOf 32 = .ok (.invokevirtual 115, 3) := by decide +kernel
theorem dX11_lineOf_35 : decode cX11_lineOf 35 = .ok (.ireturn, 1) := by decide +kernel
theorem dX11_lineOf_36 : decode cX11_lineOf 36 = .ok (.iload_n 2, 1) := by decide +kernel
theorem dX11_lineOf_37 : decode cX11_lineOf 37 = .ok (.aload_n 0, 1) := by decide +kernel
theorem dX11_lineOf_38 : decode cX11_lineOf 38 = .ok (.iload_n 1, 1) := by decide +kernel
theorem dX11_lineOf_39 : decode cX11_lineOf 39 = .ok (.invokevirtual 313, 3) := by decide +kernel
theorem dX11_lineOf_42 : decode cX11_lineOf 42 = .ok (.if_icmp .lt 5, 3) := by decide +kernel
theorem dX11_lineOf_45 : decode cX11_lineOf 45 = .ok (.iconst (-1), 1) := by decide +kernel
theorem dX11_lineOf_46 : decode cX11_lineOf 46 = .ok (.ireturn, 1) := by decide +kernel
theorem dX11_lineOf_47 : decode cX11_lineOf 47 = .ok (.iconst 0, 1) := by decide +kernel
theorem dX11_lineOf_48 : decode cX11_lineOf 48 = .ok (.istore_n 3, 1) := by decide +kernel
theorem dX11_lineOf_49 : decode cX11_lineOf 49 = .ok (.iconst 0, 1) := by decide +kernel
theorem dX11_lineOf_50 : decode cX11_lineOf 50 = .ok (.istore 4, 2) := by decide +kernel
theorem dX11_lineOf_52 : decode cX11_lineOf 52 = .ok (.aload_n 0, 1) := by decide +kernel
theorem dX11_lineOf_53 : decode cX11_lineOf 53 = .ok (.getfield 77, 3) := by decide +kernel
theorem dX11_lineOf_56 : decode cX11_lineOf 56 = .ok (.iload 4, 2) := by decide +kernel
theorem dX11_lineOf_58 : decode cX11_lineOf 58 = .ok (.iaload, 1) := by decide +kernel
theorem dX11_lineOf_59 : decode cX11_lineOf 59 = .ok (.iload_n 2, 1) := by decide +kernel
theorem dX11_lineOf_60 : decode cX11_lineOf 60 = .ok (.if_icmp .gt 18, 3) := by decide +kernel
theorem dX11_lineOf_63 : decode cX11_lineOf 63 = .ok (.iinc 3 1, 3) := by decide +kernel
theorem dX11_lineOf_66 : decode cX11_lineOf 66 = .ok (.aload_n 0, 1) := by decide +kernel
theorem dX11_lineOf_67 : decode cX11_lineOf 67 = .ok (.getfield 77, 3) := by decide +kernel
theorem dX11_lineOf_70 : decode cX11_lineOf 70 = .ok (.iload 4, 2) := by decide +kernel
theorem dX11_lineOf_72 : decode cX11_lineOf 72 = .ok (.iaload, 1) := by decide +kernel
theorem dX11_lineOf_73 : decode cX11_lineOf 73 = .ok (.istore 4, 2) := by decide +kernel
theorem dX11_lineOf_75 : decode cX11_lineOf 75 = .ok (.goto (-23), 3) := by decide +kernel
theorem dX11_lineOf_78 : decode cX11_lineOf 78 = .ok (.iload_n 3, 1) := by decide +kernel
theorem dX11_lineOf_79 : decode cX11_lineOf 79 = .ok (.ireturn, 1) := by decide +kernel
theorem dX11_costNow_0 : decode cX11_costNow 0 = .ok (.aload_n 0, 1) := by decide +kernel
theorem dX11_costNow_1 : decode cX11_costNow 1 = .ok (.iload_n 1, 1) := by decide +kernel
theorem dX11_costNow_2 : decode cX11_costNow 2 = .ok (.invokevirtual 313, 3) := by decide +kernel
theorem dX11_costNow_5 : decode cX11_costNow 5 = .ok (.ifCond .ne 7, 3) := by decide +kernel
theorem dX11_costNow_8 : decode cX11_costNow 8 = .ok (.iconst 0, 1) := by decide +kernel
theorem dX11_costNow_9 : decode cX11_costNow 9 = .ok (.goto 9, 3) := by decide +kernel
theorem dX11_costNow_12 : decode cX11_costNow 12 = .ok (.aload_n 0, 1) := by decide +kernel
theorem dX11_costNow_13 : decode cX11_costNow 13 = .ok (.getfield 74, 3) := by decide +kernel
theorem dX11_costNow_16 : decode cX11_costNow 16 = .ok (.iconst 0, 1) := by decide +kernel
theorem dX11_costNow_17 : decode cX11_costNow 17 = .ok (.iaload, 1) := by decide +kernel
theorem dX11_costNow_18 : decode cX11_costNow 18 = .ok (.ireturn, 1) := by decide +kernel
theorem dX11_costOf_0 : decode cX11_costOf 0 = .ok (.aload_n 0, 1) := by decide +kernel
theorem dX11_costOf_1 : decode cX11_costOf 1 = .ok (.iconst 0, 1) := by decide +kernel
theorem dX11_costOf_2 : decode cX11_costOf 2 = .ok (.putfield 87, 3) := by decide +kernel
theorem dX11_costOf_5 : decode cX11_costOf 5 = .ok (.iload_n 1, 1) := by decide +kernel
theorem dX11_costOf_6 : decode cX11_costOf 6 = .ok (.bipush 10, 2) := by decide +kernel
theorem dX11_costOf_8 : decode cX11_costOf 8 = .ok (.sipush 400, 3) := by decide +kernel
theorem dX11_costOf_11 : decode cX11_costOf 11 = .ok (.invokestatic 91, 3) := by decide +kernel
theorem dX11_costOf_14 : decode cX11_costOf 14 = .ok (.ifCond .eq 11, 3) := by decide +kernel
theorem dX11_costOf_17 : decode cX11_costOf 17 = .ok (.aload_n 0, 1) := by decide +kernel
theorem dX11_costOf_18 : decode cX11_costOf 18 = .ok (.iload_n 1, 1) := by decide +kernel
theorem dX11_costOf_19 : decode cX11_costOf 19 = .ok (.invokevirtual 319, 3) := by decide +kernel
theorem dX11_costOf_22 : decode cX11_costOf 22 = .ok (.goto 8, 3) := by decide +kernel
theorem dX11_costOf_25 : decode cX11_costOf 25 = .ok (.aload_n 0, 1) := by decide +kernel
theorem dX11_costOf_26 : decode cX11_costOf 26 = .ok (.iconst 1, 1) := by decide +kernel
theorem dX11_costOf_27 : decode cX11_costOf 27 = .ok (.invokevirtual 115, 3) := by decide +kernel
theorem dX11_costOf_30 : decode cX11_costOf 30 = .ok (.ireturn, 1) := by decide +kernel
theorem dX11_meanHeight_0 : decode cX11_meanHeight 0 = .ok (.aload_n 0, 1) := by decide +kernel
theorem dX11_meanHeight_1 : decode cX11_meanHeight 1 = .ok (.iconst 0, 1) := by decide +kernel
theorem dX11_meanHeight_2 : decode cX11_meanHeight 2 = .ok (.putfield 87, 3) := by decide +kernel
theorem dX11_meanHeight_5 : decode cX11_meanHeight 5 = .ok (.iconst 0, 1) := by decide +kernel
theorem dX11_meanHeight_6 : decode cX11_meanHeight 6 = .ok (.istore_n 1, 1) := by decide +kernel
theorem dX11_meanHeight_7 : decode cX11_meanHeight 7 = .ok (.iconst 0, 1) := by decide +kernel
theorem dX11_meanHeight_8 : decode cX11_meanHeight 8 = .ok (.istore_n 2, 1) := by decide +kernel
theorem dX11_meanHeight_9 : decode cX11_meanHeight 9 = .ok (.aload_n 0, 1) := by decide +kernel
theorem dX11_meanHeight_10 : decode cX11_meanHeight 10 = .ok (.getfield 24, 3) := by decide +kernel
theorem dX11_meanHeight_13 : decode cX11_meanHeight 13 = .ok (.astore_n 3, 1) := by decide +kernel
theorem dX11_meanHeight_14 : decode cX11_meanHeight 14 = .ok (.aload_n 3, 1) := by decide +kernel
theorem dX11_meanHeight_15 : decode cX11_meanHeight 15 = .ok (.arraylength, 1) := by decide +kernel
theorem dX11_meanHeight_16 : decode cX11_meanHeight 16 = .ok (.istore 4, 2) := by decide +kernel
theorem dX11_meanHeight_18 : decode cX11_meanHeight 18 = .ok (.iconst 0, 1) := by decide +kernel
theorem dX11_meanHeight_19 : decode cX11_meanHeight 19 = .ok (.istore 5, 2) := by decide +kernel
theorem dX11_meanHeight_21 : decode cX11_meanHeight 21 = .ok (.iload 5, 2) := by decide +kernel
theorem dX11_meanHeight_23 : decode cX11_meanHeight 23 = .ok (.iload 4, 2) := by decide +kernel
theorem dX11_meanHeight_25 : decode cX11_meanHeight 25 = .ok (.if_icmp .ge 60, 3) := by decide +kernel
theorem dX11_meanHeight_28 : decode cX11_meanHeight 28 = .ok (.aload_n 3, 1) := by decide +kernel
theorem dX11_meanHeight_29 : decode cX11_meanHeight 29 = .ok (.iload 5, 2) := by decide +kernel
theorem dX11_meanHeight_31 : decode cX11_meanHeight 31 = .ok (.aaload, 1) := by decide +kernel
theorem dX11_meanHeight_32 : decode cX11_meanHeight 32 = .ok (.astore 6, 2) := by decide +kernel
theorem dX11_meanHeight_34 : decode cX11_meanHeight 34 = .ok (.iconst 0, 1) := by decide +kernel
theorem dX11_meanHeight_35 : decode cX11_meanHeight 35 = .ok (.istore 7, 2) := by decide +kernel
theorem dX11_meanHeight_37 : decode cX11_meanHeight 37 = .ok (.iload 7, 2) := by decide +kernel
theorem dX11_meanHeight_39 : decode cX11_meanHeight 39 = .ok (.aload 6, 2) := by decide +kernel
theorem dX11_meanHeight_41 : decode cX11_meanHeight 41 = .ok (.getfield 99, 3) := by decide +kernel
theorem dX11_meanHeight_44 : decode cX11_meanHeight 44 = .ok (.if_icmp .ge 35, 3) := by decide +kernel
theorem dX11_meanHeight_47 : decode cX11_meanHeight 47 = .ok (.aload 6, 2) := by decide +kernel
theorem dX11_meanHeight_49 : decode cX11_meanHeight 49 = .ok (.iload 7, 2) := by decide +kernel
theorem dX11_meanHeight_51 : decode cX11_meanHeight 51 = .ok (.invokevirtual 137, 3) := by decide +kernel
theorem dX11_meanHeight_54 : decode cX11_meanHeight 54 = .ok (.ifCond .ne 6, 3) := by decide +kernel
theorem dX11_meanHeight_57 : decode cX11_meanHeight 57 = .ok (.goto 16, 3) := by decide +kernel
theorem dX11_meanHeight_60 : decode cX11_meanHeight 60 = .ok (.iload_n 1, 1) := by decide +kernel
theorem dX11_meanHeight_61 : decode cX11_meanHeight 61 = .ok (.aload 6, 2) := by decide +kernel
theorem dX11_meanHeight_63 : decode cX11_meanHeight 63 = .ok (.iload 7, 2) := by decide +kernel
theorem dX11_meanHeight_65 : decode cX11_meanHeight 65 = .ok (.invokevirtual 140, 3) := by decide +kernel
theorem dX11_meanHeight_68 : decode cX11_meanHeight 68 = .ok (.iadd, 1) := by decide +kernel
theorem dX11_meanHeight_69 : decode cX11_meanHeight 69 = .ok (.istore_n 1, 1) := by decide +kernel
theorem dX11_meanHeight_70 : decode cX11_meanHeight 70 = .ok (.iinc 2 1, 3) := by decide +kernel
theorem dX11_meanHeight_73 : decode cX11_meanHeight 73 = .ok (.iinc 7 1, 3) := by decide +kernel
theorem dX11_meanHeight_76 : decode cX11_meanHeight 76 = .ok (.goto (-39), 3) := by decide +kernel
theorem dX11_meanHeight_79 : decode cX11_meanHeight 79 = .ok (.iinc 5 1, 3) := by decide +kernel
theorem dX11_meanHeight_82 : decode cX11_meanHeight 82 = .ok (.goto (-61), 3) := by decide +kernel
theorem dX11_meanHeight_85 : decode cX11_meanHeight 85 = .ok (.iload_n 2, 1) := by decide +kernel
theorem dX11_meanHeight_86 : decode cX11_meanHeight 86 = .ok (.ifCond .ne 7, 3) := by decide +kernel
theorem dX11_meanHeight_89 : decode cX11_meanHeight 89 = .ok (.dconst 0, 1) := by decide +kernel
theorem dX11_meanHeight_90 : decode cX11_meanHeight 90 = .ok (.goto 8, 3) := by decide +kernel
theorem dX11_meanHeight_93 : decode cX11_meanHeight 93 = .ok (.iload_n 1, 1) := by decide +kernel
theorem dX11_meanHeight_94 : decode cX11_meanHeight 94 = .ok (.i2d, 1) := by decide +kernel
theorem dX11_meanHeight_95 : decode cX11_meanHeight 95 = .ok (.iload_n 2, 1) := by decide +kernel
theorem dX11_meanHeight_96 : decode cX11_meanHeight 96 = .ok (.i2d, 1) := by decide +kernel
theorem dX11_meanHeight_97 : decode cX11_meanHeight 97 = .ok (.ddiv, 1) := by decide +kernel
theorem dX11_meanHeight_98 : decode cX11_meanHeight 98 = .ok (.dreturn, 1) := by decide +kernel
theorem dX11_add__0 : decode cX11_add_ 0 = .ok (.aload_n 0, 1) := by decide +kernel
theorem dX11_add__1 : decode cX11_add_ 1 = .ok (.aload_n 0, 1) := by decide +kernel
theorem dX11_add__2 : decode cX11_add_ 2 = .ok (.getfield 322, 3) := by decide +kernel
theorem dX11_add__5 : decode cX11_add_ 5 = .ok (.ldc2_w 326, 3) := by decide +kernel
theorem dX11_add__8 : decode cX11_add_ 8 = .ok (.lmul, 1) := by decide +kernel
theorem dX11_add__9 : decode cX11_add_ 9 = .ok (.iload_n 1, 1) := by decide +kernel
theorem dX11_add__10 : decode cX11_add_ 10 = .ok (.i2l, 1) := by decide +kernel
theorem dX11_add__11 : decode cX11_add_ 11 = .ok (.ladd, 1) := by decide +kernel
theorem dX11_add__12 : decode cX11_add_ 12 = .ok (.putfield 322, 3) := by decide +kernel
theorem dX11_add__15 : decode cX11_add_ 15 = .ok (.return_, 1) := by decide +kernel
theorem dX11_addSigns_0 : decode cX11_addSigns 0 = .ok (.aload_n 0, 1) := by decide +kernel
theorem dX11_addSigns_1 : decode cX11_addSigns 1 = .ok (.iload_n 1, 1) := by decide +kernel
theorem dX11_addSigns_2 : decode cX11_addSigns 2 = .ok (.iload_n 2, 1) := by decide +kernel
theorem dX11_addSigns_3 : decode cX11_addSigns 3 = .ok (.invokevirtual 227, 3) := by decide +kernel
theorem dX11_addSigns_6 : decode cX11_addSigns 6 = .ok (.aload_n 0, 1) := by decide +kernel
theorem dX11_addSigns_7 : decode cX11_addSigns 7 = .ok (.aload_n 0, 1) := by decide +kernel
theorem dX11_addSigns_8 : decode cX11_addSigns 8 = .ok (.getfield 202, 3) := by decide +kernel
theorem dX11_addSigns_11 : decode cX11_addSigns 11 = .ok (.invokevirtual 328, 3) := by decide +kernel
theorem dX11_addSigns_14 : decode cX11_addSigns 14 = .ok (.aload_n 0, 1) := by decide +kernel
theorem dX11_addSigns_15 : decode cX11_addSigns 15 = .ok (.aload_n 0, 1) := by decide +kernel
theorem dX11_addSigns_16 : decode cX11_addSigns 16 = .ok (.getfield 221, 3) := by decide +kernel
theorem dX11_addSigns_19 : decode cX11_addSigns 19 = .ok (.invokevirtual 328, 3) := by decide +kernel
theorem dX11_addSigns_22 : decode cX11_addSigns 22 = .ok (.aload_n 0, 1) := by decide +kernel
theorem dX11_addSigns_23 : decode cX11_addSigns 23 = .ok (.aload_n 0, 1) := by decide +kernel
theorem dX11_addSigns_24 : decode cX11_addSigns 24 = .ok (.iload_n 1, 1) := by decide +kernel
theorem dX11_addSigns_25 : decode cX11_addSigns 25 = .ok (.iload_n 2, 1) := by decide +kernel
theorem dX11_addSigns_26 : decode cX11_addSigns 26 = .ok (.invokevirtual 236, 3) := by decide +kernel
theorem dX11_addSigns_29 : decode cX11_addSigns 29 = .ok (.invokevirtual 328, 3) := by decide +kernel
theorem dX11_addSigns_32 : decode cX11_addSigns 32 = .ok (.aload_n 0, 1) := by decide +kernel
theorem dX11_addSigns_33 : decode cX11_addSigns 33 = .ok (.aload_n 0, 1) := by decide +kernel
theorem dX11_addSigns_34 : decode cX11_addSigns 34 = .ok (.iload_n 1, 1) := by decide +kernel
theorem dX11_addSigns_35 : decode cX11_addSigns 35 = .ok (.iload_n 2, 1) := by decide +kernel
theorem dX11_addSigns_36 : decode cX11_addSigns 36 = .ok (.invokevirtual 199, 3) := by decide +kernel
theorem dX11_addSigns_39 : decode cX11_addSigns 39 = .ok (.invokevirtual 328, 3) := by decide +kernel
theorem dX11_addSigns_42 : decode cX11_addSigns 42 = .ok (.iconst 0, 1) := by decide +kernel
theorem dX11_addSigns_43 : decode cX11_addSigns 43 = .ok (.istore_n 3, 1) := by decide +kernel
theorem dX11_addSigns_44 : decode cX11_addSigns 44 = .ok (.iload_n 3, 1) := by decide +kernel
theorem dX11_addSigns_45 : decode cX11_addSigns 45 = .ok (.aload_n 0, 1) := by decide +kernel
theorem dX11_addSigns_46 : decode cX11_addSigns 46 = .ok (.getfield 202, 3) := by decide +kernel
theorem dX11_addSigns_49 : decode cX11_addSigns 49 = .ok (.if_icmp .ge 77, 3) := by decide +kernel
theorem dX11_addSigns_52 : decode cX11_addSigns 52 = .ok (.aload_n 0, 1) := by decide +kernel
theorem dX11_addSigns_53 : decode cX11_addSigns 53 = .ok (.aload_n 0, 1) := by decide +kernel
theorem dX11_addSigns_54 : decode cX11_addSigns 54 = .ok (.getfield 37, 3) := by decide +kernel
theorem dX11_addSigns_57 : decode cX11_addSigns 57 = .ok (.iload_n 3, 1) := by decide +kernel
theorem dX11_addSigns_58 : decode cX11_addSigns 58 = .ok (.iaload, 1) := by decide +kernel
theorem dX11_addSigns_59 : decode cX11_addSigns 59 = .ok (.invokevirtual 328, 3) := by decide +kernel
theorem dX11_addSigns_62 : decode cX11_addSigns 62 = .ok (.aload_n 0, 1) := by decide +kernel
theorem dX11_addSigns_63 : decode cX11_addSigns 63 = .ok (.aload_n 0, 1) := by decide +kernel
theorem dX11_addSigns_64 : decode cX11_addSigns 64 = .ok (.getfield 40, 3) := by decide +kernel
theorem dX11_addSigns_67 : decode cX11_addSigns 67 = .ok (.iload_n 3, 1) := by decide +kernel
theorem dX11_addSigns_68 : decode cX11_addSigns 68 = .ok (.iaload, 1) := by decide +kernel
theorem dX11_addSigns_69 : decode cX11_addSigns 69 = .ok (.invokevirtual 328, 3) := by decide +kernel
theorem dX11_addSigns_72 : decode cX11_addSigns 72 = .ok (.aload_n 0, 1) := by decide +kernel
theorem dX11_addSigns_73 : decode cX11_addSigns 73 = .ok (.aload_n 0, 1) := by decide +kernel
theorem dX11_addSigns_74 : decode cX11_addSigns 74 = .ok (.getfield 46, 3) := by decide +kernel
theorem dX11_addSigns_77 : decode cX11_addSigns 77 = .ok (.iload_n 3, 1) := by decide +kernel
theorem dX11_addSigns_78 : decode cX11_addSigns 78 = .ok (.baload, 1) := by decide +kernel
theorem dX11_addSigns_79 : decode cX11_addSigns 79 = .ok (.ifCond .eq 7, 3) := by decide +kernel
theorem dX11_addSigns_82 : decode cX11_addSigns 82 = .ok (.iconst 1, 1) := by decide +kernel
theorem dX11_addSigns_83 : decode cX11_addSigns 83 = .ok (.goto 4, 3) := by decide +kernel
theorem dX11_addSigns_86 : decode cX11_addSigns 86 = .ok (.iconst 0, 1) := by decide +kernel
theorem dX11_addSigns_87 : decode cX11_addSigns 87 = .ok (.invokevirtual 328, 3) := by decide +kernel
theorem dX11_addSigns_90 : decode cX11_addSigns 90 = .ok (.aload_n 0, 1) := by decide +kernel
theorem dX11_addSigns_91 : decode cX11_addSigns 91 = .ok (.aload_n 0, 1) := by decide +kernel
theorem dX11_addSigns_92 : decode cX11_addSigns 92 = .ok (.getfield 50, 3) := by decide +kernel
theorem dX11_addSigns_95 : decode cX11_addSigns 95 = .ok (.iload_n 3, 1) := by decide +kernel
theorem dX11_addSigns_96 : decode cX11_addSigns 96 = .ok (.iaload, 1) := by decide +kernel
theorem dX11_addSigns_97 : decode cX11_addSigns 97 = .ok (.invokevirtual 328, 3) := by decide +kernel
theorem dX11_addSigns_100 : decode cX11_addSigns 100 = .ok (.aload_n 0, 1) := by decide +kernel
theorem dX11_addSigns_101 : decode cX11_addSigns 101 = .ok (.aload_n 0, 1) := by decide +kernel
theorem dX11_addSigns_102 : decode cX11_addSigns 102 = .ok (.getfield 53, 3) := by decide +kernel
theorem dX11_addSigns_105 : decode cX11_addSigns 105 = .ok (.iload_n 3, 1) := by decide +kernel
theorem dX11_addSigns_106 : decode cX11_addSigns 106 = .ok (.iaload, 1) := by decide +kernel
theorem dX11_addSigns_107 : decode cX11_addSigns 107 = .ok (.invokevirtual 328, 3) := by decide +kernel
theorem dX11_addSigns_110 : decode cX11_addSigns 110 = .ok (.aload_n 0, 1) := by decide +kernel
theorem dX11_addSigns_111 : decode cX11_addSigns 111 = .ok (.aload_n 0, 1) := by decide +kernel
theorem dX11_addSigns_112 : decode cX11_addSigns 112 = .ok (.getfield 56, 3) := by decide +kernel
theorem dX11_addSigns_115 : decode cX11_addSigns 115 = .ok (.iload_n 3, 1) := by decide +kernel
theorem dX11_addSigns_116 : decode cX11_addSigns 116 = .ok (.iaload, 1) := by decide +kernel
theorem dX11_addSigns_117 : decode cX11_addSigns 117 = .ok (.invokevirtual 328, 3) := by decide +kernel
theorem dX11_addSigns_120 : decode cX11_addSigns 120 = .ok (.iinc 3 1, 3) := by decide +kernel
theorem dX11_addSigns_123 : decode cX11_addSigns 123 = .ok (.goto (-79), 3) := by decide +kernel
theorem dX11_addSigns_126 : decode cX11_addSigns 126 = .ok (.return_, 1) := by decide +kernel
theorem dX11_digest_0 : decode cX11_digest 0 = .ok (.aload_n 0, 1) := by decide +kernel
theorem dX11_digest_1 : decode cX11_digest 1 = .ok (.ldc2_w 330, 3) := by decide +kernel
theorem dX11_digest_4 : decode cX11_digest 4 = .ok (.putfield 322, 3) := by decide +kernel
theorem dX11_digest_7 : decode cX11_digest 7 = .ok (.iconst 0, 1) := by decide +kernel
theorem dX11_digest_8 : decode cX11_digest 8 = .ok (.istore_n 1, 1) := by decide +kernel
theorem dX11_digest_9 : decode cX11_digest 9 = .ok (.iload_n 1, 1) := by decide +kernel
theorem dX11_digest_10 : decode cX11_digest 10 = .ok (.iconst 4, 1) := by decide +kernel
theorem dX11_digest_11 : decode cX11_digest 11 = .ok (.if_icmp .ge 107, 3) := by decide +kernel
theorem dX11_digest_14 : decode cX11_digest 14 = .ok (.aload_n 0, 1) := by decide +kernel
theorem dX11_digest_15 : decode cX11_digest 15 = .ok (.aload_n 0, 1) := by decide +kernel
theorem dX11_digest_16 : decode cX11_digest 16 = .ok (.getfield 24, 3) := by decide +kernel
theorem dX11_digest_19 : decode cX11_digest 19 = .ok (.iload_n 1, 1) := by decide +kernel
theorem dX11_digest_20 : decode cX11_digest 20 = .ok (.aaload, 1) := by decide +kernel
theorem dX11_digest_21 : decode cX11_digest 21 = .ok (.getfield 99, 3) := by decide +kernel
theorem dX11_digest_24 : decode cX11_digest 24 = .ok (.invokevirtual 328, 3) := by decide +kernel
theorem dX11_digest_27 : decode cX11_digest 27 = .ok (.iconst 0, 1) := by decide +kernel
theorem dX11_digest_28 : decode cX11_digest 28 = .ok (.istore_n 2, 1) := by decide +kernel
theorem dX11_digest_29 : decode cX11_digest 29 = .ok (.iload_n 2, 1) := by decide +kernel
theorem dX11_digest_30 : decode cX11_digest 30 = .ok (.aload_n 0, 1) := by decide +kernel
theorem dX11_digest_31 : decode cX11_digest 31 = .ok (.getfield 24, 3) := by decide +kernel
theorem dX11_digest_34 : decode cX11_digest 34 = .ok (.iload_n 1, 1) := by decide +kernel
theorem dX11_digest_35 : decode cX11_digest 35 = .ok (.aaload, 1) := by decide +kernel
theorem dX11_digest_36 : decode cX11_digest 36 = .ok (.getfield 99, 3) := by decide +kernel
theorem dX11_digest_39 : decode cX11_digest 39 = .ok (.if_icmp .ge 73, 3) := by decide +kernel
theorem dX11_digest_42 : decode cX11_digest 42 = .ok (.aload_n 0, 1) := by decide +kernel
theorem dX11_digest_43 : decode cX11_digest 43 = .ok (.aload_n 0, 1) := by decide +kernel
theorem dX11_digest_44 : decode cX11_digest 44 = .ok (.getfield 24, 3) := by decide +kernel
theorem dX11_digest_47 : decode cX11_digest 47 = .ok (.iload_n 1, 1) := by decide +kernel
theorem dX11_digest_48 : decode cX11_digest 48 = .ok (.aaload, 1) := by decide +kernel
theorem dX11_digest_49 : decode cX11_digest 49 = .ok (.getfield 170, 3) := by decide +kernel
theorem dX11_digest_52 : decode cX11_digest 52 = .ok (.iload_n 2, 1) := by decide +kernel
theorem dX11_digest_53 : decode cX11_digest 53 = .ok (.iaload, 1) := by decide +kernel
theorem dX11_digest_54 : decode cX11_digest 54 = .ok (.invokevirtual 328, 3) := by decide +kernel
theorem dX11_digest_57 : decode cX11_digest 57 = .ok (.aload_n 0, 1) := by decide +kernel
theorem dX11_digest_58 : decode cX11_digest 58 = .ok (.aload_n 0, 1) := by decide +kernel
theorem dX11_digest_59 : decode cX11_digest 59 = .ok (.iload_n 1, 1) := by decide +kernel
theorem dX11_digest_60 : decode cX11_digest 60 = .ok (.iload_n 2, 1) := by decide +kernel
theorem dX11_digest_61 : decode cX11_digest 61 = .ok (.invokevirtual 172, 3) := by decide +kernel
theorem dX11_digest_64 : decode cX11_digest 64 = .ok (.invokevirtual 328, 3) := by decide +kernel
theorem dX11_digest_67 : decode cX11_digest 67 = .ok (.aload_n 0, 1) := by decide +kernel
theorem dX11_digest_68 : decode cX11_digest 68 = .ok (.aload_n 0, 1) := by decide +kernel
theorem dX11_digest_69 : decode cX11_digest 69 = .ok (.aload_n 0, 1) := by decide +kernel
theorem dX11_digest_70 : decode cX11_digest 70 = .ok (.getfield 24, 3) := by decide +kernel
theorem dX11_digest_73 : decode cX11_digest 73 = .ok (.iload_n 1, 1) := by decide +kernel
theorem dX11_digest_74 : decode cX11_digest 74 = .ok (.aaload, 1) := by decide +kernel
theorem dX11_digest_75 : decode cX11_digest 75 = .ok (.getfield 170, 3) := by decide +kernel
theorem dX11_digest_78 : decode cX11_digest 78 = .ok (.iload_n 2, 1) := by decide +kernel
theorem dX11_digest_79 : decode cX11_digest 79 = .ok (.iaload, 1) := by decide +kernel
theorem dX11_digest_80 : decode cX11_digest 80 = .ok (.invokevirtual 175, 3) := by decide +kernel
theorem dX11_digest_83 : decode cX11_digest 83 = .ok (.invokevirtual 328, 3) := by decide +kernel
theorem dX11_digest_86 : decode cX11_digest 86 = .ok (.aload_n 0, 1) := by decide +kernel
theorem dX11_digest_87 : decode cX11_digest 87 = .ok (.aload_n 0, 1) := by decide +kernel
theorem dX11_digest_88 : decode cX11_digest 88 = .ok (.iload_n 1, 1) := by decide +kernel
theorem dX11_digest_89 : decode cX11_digest 89 = .ok (.iload_n 2, 1) := by decide +kernel
theorem dX11_digest_90 : decode cX11_digest 90 = .ok (.invokevirtual 184, 3) := by decide +kernel
theorem dX11_digest_93 : decode cX11_digest 93 = .ok (.invokevirtual 328, 3) := by decide +kernel
theorem dX11_digest_96 : decode cX11_digest 96 = .ok (.aload_n 0, 1) := by decide +kernel
theorem dX11_digest_97 : decode cX11_digest 97 = .ok (.aload_n 0, 1) := by decide +kernel
theorem dX11_digest_98 : decode cX11_digest 98 = .ok (.iload_n 1, 1) := by decide +kernel
theorem dX11_digest_99 : decode cX11_digest 99 = .ok (.iload_n 2, 1) := by decide +kernel
theorem dX11_digest_100 : decode cX11_digest 100 = .ok (.invokevirtual 187, 3) := by decide +kernel
theorem dX11_digest_103 : decode cX11_digest 103 = .ok (.invokevirtual 328, 3) := by decide +kernel
theorem dX11_digest_106 : decode cX11_digest 106 = .ok (.iinc 2 1, 3) := by decide +kernel
theorem dX11_digest_109 : decode cX11_digest 109 = .ok (.goto (-80), 3) := by decide +kernel
theorem dX11_digest_112 : decode cX11_digest 112 = .ok (.iinc 1 1, 3) := by decide +kernel
theorem dX11_digest_115 : decode cX11_digest 115 = .ok (.goto (-106), 3) := by decide +kernel
theorem dX11_digest_118 : decode cX11_digest 118 = .ok (.iconst 0, 1) := by decide +kernel
theorem dX11_digest_119 : decode cX11_digest 119 = .ok (.istore_n 1, 1) := by decide +kernel
theorem dX11_digest_120 : decode cX11_digest 120 = .ok (.iload_n 1, 1) := by decide +kernel
theorem dX11_digest_121 : decode cX11_digest 121 = .ok (.bipush 24, 2) := by decide +kernel
theorem dX11_digest_123 : decode cX11_digest 123 = .ok (.if_icmp .ge 55, 3) := by decide +kernel
theorem dX11_digest_126 : decode cX11_digest 126 = .ok (.aload_n 0, 1) := by decide +kernel
theorem dX11_digest_127 : decode cX11_digest 127 = .ok (.aload_n 0, 1) := by decide +kernel
theorem dX11_digest_128 : decode cX11_digest 128 = .ok (.iload_n 1, 1) := by decide +kernel
theorem dX11_digest_129 : decode cX11_digest 129 = .ok (.invokevirtual 112, 3) := by decide +kernel
theorem dX11_digest_132 : decode cX11_digest 132 = .ok (.invokevirtual 328, 3) := by decide +kernel
theorem dX11_digest_135 : decode cX11_digest 135 = .ok (.aload_n 0, 1) := by decide +kernel
theorem dX11_digest_136 : decode cX11_digest 136 = .ok (.aload_n 0, 1) := by decide +kernel
theorem dX11_digest_137 : decode cX11_digest 137 = .ok (.iload_n 1, 1) := by decide +kernel
theorem dX11_digest_138 : decode cX11_digest 138 = .ok (.invokevirtual 105, 3) := by decide +kernel
theorem dX11_digest_141 : decode cX11_digest 141 = .ok (.invokevirtual 328, 3) := by decide +kernel
theorem dX11_digest_144 : decode cX11_digest 144 = .ok (.aload_n 0, 1) := by decide +kernel
theorem dX11_digest_145 : decode cX11_digest 145 = .ok (.aload_n 0, 1) := by decide +kernel
theorem dX11_digest_146 : decode cX11_digest 146 = .ok (.iload_n 1, 1) := by decide +kernel
theorem dX11_digest_147 : decode cX11_digest 147 = .ok (.invokevirtual 310, 3) := by decide +kernel
theorem dX11_digest_150 : decode cX11_digest 150 = .ok (.invokevirtual 328, 3) := by decide +kernel
theorem dX11_digest_153 : decode cX11_digest 153 = .ok (.iconst 0, 1) := by decide +kernel
theorem dX11_digest_154 : decode cX11_digest 154 = .ok (.istore_n 2, 1) := by decide +kernel
theorem dX11_digest_155 : decode cX11_digest 155 = .ok (.iload_n 2, 1) := by decide +kernel
theorem dX11_digest_156 : decode cX11_digest 156 = .ok (.iconst 4, 1) := by decide +kernel
theorem dX11_digest_157 : decode cX11_digest 157 = .ok (.if_icmp .ge 15, 3) := by decide +kernel
theorem dX11_digest_160 : decode cX11_digest 160 = .ok (.aload_n 0, 1) := by decide +kernel
theorem dX11_digest_161 : decode cX11_digest 161 = .ok (.iload_n 2, 1) := by decide +kernel
theorem dX11_digest_162 : decode cX11_digest 162 = .ok (.iload_n 1, 1) := by decide +kernel
theorem dX11_digest_163 : decode cX11_digest 163 = .ok (.invokevirtual 332, 3) := by decide +kernel
theorem dX11_digest_166 : decode cX11_digest 166 = .ok (.iinc 2 1, 3) := by decide +kernel
theorem dX11_digest_169 : decode cX11_digest 169 = .ok (.goto (-14), 3) := by decide +kernel
theorem dX11_digest_172 : decode cX11_digest 172 = .ok (.iinc 1 1, 3) := by decide +kernel
theorem dX11_digest_175 : decode cX11_digest 175 = .ok (.goto (-55), 3) := by decide +kernel
theorem dX11_digest_178 : decode cX11_digest 178 = .ok (.aload_n 0, 1) := by decide +kernel
theorem dX11_digest_179 : decode cX11_digest 179 = .ok (.aload_n 0, 1) := by decide +kernel
theorem dX11_digest_180 : decode cX11_digest 180 = .ok (.invokevirtual 252, 3) := by decide +kernel
theorem dX11_digest_183 : decode cX11_digest 183 = .ok (.invokevirtual 328, 3) := by decide +kernel
theorem dX11_digest_186 : decode cX11_digest 186 = .ok (.aload_n 0, 1) := by decide +kernel
theorem dX11_digest_187 : decode cX11_digest 187 = .ok (.invokevirtual 245, 3) := by decide +kernel
theorem dX11_digest_190 : decode cX11_digest 190 = .ok (.aload_n 0, 1) := by decide +kernel
theorem dX11_digest_191 : decode cX11_digest 191 = .ok (.invokevirtual 248, 3) := by decide +kernel
theorem dX11_digest_194 : decode cX11_digest 194 = .ok (.ifCond .eq 64, 3) := by decide +kernel
theorem dX11_digest_197 : decode cX11_digest 197 = .ok (.aload_n 0, 1) := by decide +kernel
theorem dX11_digest_198 : decode cX11_digest 198 = .ok (.aload_n 0, 1) := by decide +kernel
theorem dX11_digest_199 : decode cX11_digest 199 = .ok (.getfield 239, 3) := by decide +kernel
theorem dX11_digest_202 : decode cX11_digest 202 = .ok (.invokevirtual 328, 3) := by decide +kernel
theorem dX11_digest_205 : decode cX11_digest 205 = .ok (.iconst 0, 1) := by decide +kernel
theorem dX11_digest_206 : decode cX11_digest 206 = .ok (.istore_n 1, 1) := by decide +kernel
theorem dX11_digest_207 : decode cX11_digest 207 = .ok (.iload_n 1, 1) := by decide +kernel
theorem dX11_digest_208 : decode cX11_digest 208 = .ok (.iconst 4, 1) := by decide +kernel
theorem dX11_digest_209 : decode cX11_digest 209 = .ok (.if_icmp .ge 18, 3) := by decide +kernel
theorem dX11_digest_212 : decode cX11_digest 212 = .ok (.aload_n 0, 1) := by decide +kernel
theorem dX11_digest_213 : decode cX11_digest 213 = .ok (.aload_n 0, 1) := by decide +kernel
theorem dX11_digest_214 : decode cX11_digest 214 = .ok (.iload_n 1, 1) := by decide +kernel
theorem dX11_digest_215 : decode cX11_digest 215 = .ok (.invokevirtual 258, 3) := by decide +kernel
theorem dX11_digest_218 : decode cX11_digest 218 = .ok (.invokevirtual 328, 3) := by decide +kernel
theorem dX11_digest_221 : decode cX11_digest 221 = .ok (.iinc 1 1, 3) := by decide +kernel
theorem dX11_digest_224 : decode cX11_digest 224 = .ok (.goto (-17), 3) := by decide +kernel
theorem dX11_digest_227 : decode cX11_digest 227 = .ok (.aload_n 0, 1) := by decide +kernel
theorem dX11_digest_228 : decode cX11_digest 228 = .ok (.invokevirtual 270, 3) := by decide +kernel
theorem dX11_digest_231 : decode cX11_digest 231 = .ok (.aload_n 0, 1) := by decide +kernel
theorem dX11_digest_232 : decode cX11_digest 232 = .ok (.aload_n 0, 1) := by decide +kernel
theorem dX11_digest_233 : decode cX11_digest 233 = .ok (.getfield 261, 3) := by decide +kernel
theorem dX11_digest_236 : decode cX11_digest 236 = .ok (.invokevirtual 328, 3) := by decide +kernel
theorem dX11_digest_239 : decode cX11_digest 239 = .ok (.aload_n 0, 1) := by decide +kernel
theorem dX11_digest_240 : decode cX11_digest 240 = .ok (.aload_n 0, 1) := by decide +kernel
theorem dX11_digest_241 : decode cX11_digest 241 = .ok (.getfield 264, 3) := by decide +kernel
theorem dX11_digest_244 : decode cX11_digest 244 = .ok (.invokevirtual 328, 3) := by decide +kernel
theorem dX11_digest_247 : decode cX11_digest 247 = .ok (.aload_n 0, 1) := by decide +kernel
theorem dX11_digest_248 : decode cX11_digest 248 = .ok (.aload_n 0, 1) := by decide +kernel
theorem dX11_digest_249 : decode cX11_digest 249 = .ok (.getfield 267, 3) := by decide +kernel
theorem dX11_digest_252 : decode cX11_digest 252 = .ok (.invokevirtual 328, 3) := by decide +kernel
theorem dX11_digest_255 : decode cX11_digest 255 = .ok (.goto (-65), 3) := by decide +kernel
theorem dX11_digest_258 : decode cX11_digest 258 = .ok (.aload_n 0, 1) := by decide +kernel
theorem dX11_digest_259 : decode cX11_digest 259 = .ok (.iconst (-1), 1) := by decide +kernel
theorem dX11_digest_260 : decode cX11_digest 260 = .ok (.invokevirtual 301, 3) := by decide +kernel
theorem dX11_digest_263 : decode cX11_digest 263 = .ok (.istore_n 1, 1) := by decide +kernel
theorem dX11_digest_264 : decode cX11_digest 264 = .ok (.aload_n 0, 1) := by decide +kernel
theorem dX11_digest_265 : decode cX11_digest 265 = .ok (.iload_n 1, 1) := by decide +kernel
theorem dX11_digest_266 : decode cX11_digest 266 = .ok (.invokevirtual 328, 3) := by decide +kernel
theorem dX11_digest_269 : decode cX11_digest 269 = .ok (.iconst 0, 1) := by decide +kernel
theorem dX11_digest_270 : decode cX11_digest 270 = .ok (.istore_n 2, 1) := by decide +kernel
theorem dX11_digest_271 : decode cX11_digest 271 = .ok (.iload_n 2, 1) := by decide +kernel
theorem dX11_digest_272 : decode cX11_digest 272 = .ok (.iload_n 1, 1) := by decide +kernel
theorem dX11_digest_273 : decode cX11_digest 273 = .ok (.if_icmp .ge 39, 3) := by decide +kernel
theorem dX11_digest_276 : decode cX11_digest 276 = .ok (.aload_n 0, 1) := by decide +kernel
theorem dX11_digest_277 : decode cX11_digest 277 = .ok (.iload_n 2, 1) := by decide +kernel
theorem dX11_digest_278 : decode cX11_digest 278 = .ok (.invokevirtual 301, 3) := by decide +kernel
theorem dX11_digest_281 : decode cX11_digest 281 = .ok (.pop, 1) := by decide +kernel
theorem dX11_digest_282 : decode cX11_digest 282 = .ok (.aload_n 0, 1) := by decide +kernel
theorem dX11_digest_283 : decode cX11_digest 283 = .ok (.aload_n 0, 1) := by decide +kernel
theorem dX11_digest_284 : decode cX11_digest 284 = .ok (.getfield 279, 3) := by decide +kernel
theorem dX11_digest_287 : decode cX11_digest 287 = .ok (.invokevirtual 328, 3) := by decide +kernel
theorem dX11_digest_290 : decode cX11_digest 290 = .ok (.aload_n 0, 1) := by decide +kernel
theorem dX11_digest_291 : decode cX11_digest 291 = .ok (.aload_n 0, 1) := by decide +kernel
theorem dX11_digest_292 : decode cX11_digest 292 = .ok (.getfield 282, 3) := by decide +kernel
theorem dX11_digest_295 : decode cX11_digest 295 = .ok (.invokevirtual 328, 3) := by decide +kernel
theorem dX11_digest_298 : decode cX11_digest 298 = .ok (.aload_n 0, 1) := by decide +kernel
theorem dX11_digest_299 : decode cX11_digest 299 = .ok (.aload_n 0, 1) := by decide +kernel
theorem dX11_digest_300 : decode cX11_digest 300 = .ok (.getfield 285, 3) := by decide +kernel
theorem dX11_digest_303 : decode cX11_digest 303 = .ok (.invokevirtual 328, 3) := by decide +kernel
theorem dX11_digest_306 : decode cX11_digest 306 = .ok (.iinc 2 1, 3) := by decide +kernel
theorem dX11_digest_309 : decode cX11_digest 309 = .ok (.goto (-38), 3) := by decide +kernel
theorem dX11_digest_312 : decode cX11_digest 312 = .ok (.aload_n 0, 1) := by decide +kernel
theorem dX11_digest_313 : decode cX11_digest 313 = .ok (.aload_n 0, 1) := by decide +kernel
theorem dX11_digest_314 : decode cX11_digest 314 = .ok (.invokevirtual 307, 3) := by decide +kernel
theorem dX11_digest_317 : decode cX11_digest 317 = .ok (.invokevirtual 328, 3) := by decide +kernel
theorem dX11_digest_320 : decode cX11_digest 320 = .ok (.aload_n 0, 1) := by decide +kernel
theorem dX11_digest_321 : decode cX11_digest 321 = .ok (.aload_n 0, 1) := by decide +kernel
theorem dX11_digest_322 : decode cX11_digest 322 = .ok (.bipush 40, 2) := by decide +kernel
theorem dX11_digest_324 : decode cX11_digest 324 = .ok (.invokevirtual 316, 3) := by decide +kernel
theorem dX11_digest_327 : decode cX11_digest 327 = .ok (.invokevirtual 328, 3) := by decide +kernel
theorem dX11_digest_330 : decode cX11_digest 330 = .ok (.aload_n 0, 1) := by decide +kernel
theorem dX11_digest_331 : decode cX11_digest 331 = .ok (.aload_n 0, 1) := by decide +kernel
theorem dX11_digest_332 : decode cX11_digest 332 = .ok (.bipush 40, 2) := by decide +kernel
theorem dX11_digest_334 : decode cX11_digest 334 = .ok (.invokevirtual 319, 3) := by decide +kernel
theorem dX11_digest_337 : decode cX11_digest 337 = .ok (.invokevirtual 328, 3) := by decide +kernel
theorem dX11_digest_340 : decode cX11_digest 340 = .ok (.aload_n 0, 1) := by decide +kernel
theorem dX11_digest_341 : decode cX11_digest 341 = .ok (.aload_n 0, 1) := by decide +kernel
theorem dX11_digest_342 : decode cX11_digest 342 = .ok (.bipush 100, 2) := by decide +kernel
theorem dX11_digest_344 : decode cX11_digest 344 = .ok (.invokevirtual 316, 3) := by decide +kernel
theorem dX11_digest_347 : decode cX11_digest 347 = .ok (.invokevirtual 328, 3) := by decide +kernel
theorem dX11_digest_350 : decode cX11_digest 350 = .ok (.aload_n 0, 1) := by decide +kernel
theorem dX11_digest_351 : decode cX11_digest 351 = .ok (.aload_n 0, 1) := by decide +kernel
theorem dX11_digest_352 : decode cX11_digest 352 = .ok (.bipush 100, 2) := by decide +kernel
theorem dX11_digest_354 : decode cX11_digest 354 = .ok (.invokevirtual 319, 3) := by decide +kernel
theorem dX11_digest_357 : decode cX11_digest 357 = .ok (.invokevirtual 328, 3) := by decide +kernel
theorem dX11_digest_360 : decode cX11_digest 360 = .ok (.aload_n 0, 1) := by decide +kernel
theorem dX11_digest_361 : decode cX11_digest 361 = .ok (.iconst 0, 1) := by decide +kernel
theorem dX11_digest_362 : decode cX11_digest 362 = .ok (.putfield 87, 3) := by decide +kernel
theorem dX11_digest_365 : decode cX11_digest 365 = .ok (.aload_n 0, 1) := by decide +kernel
theorem dX11_digest_366 : decode cX11_digest 366 = .ok (.getfield 322, 3) := by decide +kernel
theorem dX11_digest_369 : decode cX11_digest 369 = .ok (.lreturn, 1) := by decide +kernel
theorem dJ6_compare_7cf53_0 : decode cJ6_compare_7cf53 0 = .ok (.iload_n 0, 1) := by decide +kernel
theorem dJ6_compare_7cf53_1 : decode cJ6_compare_7cf53 1 = .ok (.iload_n 1, 1) := by decide +kernel
theorem dJ6_compare_7cf53_2 : decode cJ6_compare_7cf53 2 = .ok (.if_icmp .ge 7, 3) := by decide +kernel
theorem dJ6_compare_7cf53_5 : decode cJ6_compare_7cf53 5 = .ok (.iconst (-1), 1) := by decide +kernel
theorem dJ6_compare_7cf53_6 : decode cJ6_compare_7cf53 6 = .ok (.goto 13, 3) := by decide +kernel
theorem dJ6_compare_7cf53_9 : decode cJ6_compare_7cf53 9 = .ok (.iload_n 0, 1) := by decide +kernel
theorem dJ6_compare_7cf53_10 : decode cJ6_compare_7cf53 10 = .ok (.iload_n 1, 1) := by decide +kernel
theorem dJ6_compare_7cf53_11 : decode cJ6_compare_7cf53 11 = .ok (.if_icmp .ne 7, 3) := by decide +kernel
theorem dJ6_compare_7cf53_14 : decode cJ6_compare_7cf53 14 = .ok (.iconst 0, 1) := by decide +kernel
theorem dJ6_compare_7cf53_15 : decode cJ6_compare_7cf53 15 = .ok (.goto 4, 3) := by decide +kernel
theorem dJ6_compare_7cf53_18 : decode cJ6_compare_7cf53 18 = .ok (.iconst 1, 1) := by decide +kernel
theorem dJ6_compare_7cf53_19 : decode cJ6_compare_7cf53 19 = .ok (.ireturn, 1) := by decide +kernel
theorem dJ6_bitCount_0f7a4_0 : decode cJ6_bitCount_0f7a4 0 = .ok (.iload_n 0, 1) := by decide +kernel
theorem dJ6_bitCount_0f7a4_1 : decode cJ6_bitCount_0f7a4 1 = .ok (.iload_n 0, 1) := by decide +kernel
theorem dJ6_bitCount_0f7a4_2 : decode cJ6_bitCount_0f7a4 2 = .ok (.iconst 1, 1) := by decide +kernel
theorem dJ6_bitCount_0f7a4_3 : decode cJ6_bitCount_0f7a4 3 = .ok (.iushr, 1) := by decide +kernel
theorem dJ6_bitCount_0f7a4_4 : decode cJ6_bitCount_0f7a4 4 = .ok (.ldc_w 265, 3) := by decide +kernel
theorem dJ6_bitCount_0f7a4_7 : decode cJ6_bitCount_0f7a4 7 = .ok (.iand, 1) := by decide +kernel
theorem dJ6_bitCount_0f7a4_8 : decode cJ6_bitCount_0f7a4 8 = .ok (.isub, 1) := by decide +kernel
theorem dJ6_bitCount_0f7a4_9 : decode cJ6_bitCount_0f7a4 9 = .ok (.istore_n 0, 1) := by decide +kernel
theorem dJ6_bitCount_0f7a4_10 : decode cJ6_bitCount_0f7a4 10 = .ok (.iload_n 0, 1) := by decide +kernel
theorem dJ6_bitCount_0f7a4_11 : decode cJ6_bitCount_0f7a4 11 = .ok (.ldc_w 266, 3) := by decide +kernel
theorem dJ6_bitCount_0f7a4_14 : decode cJ6_bitCount_0f7a4 14 = .ok (.iand, 1) := by decide +kernel
theorem dJ6_bitCount_0f7a4_15 : decode cJ6_bitCount_0f7a4 15 = .ok (.iload_n 0, 1) := by decide +kernel
theorem dJ6_bitCount_0f7a4_16 : decode cJ6_bitCount_0f7a4 16 = .ok (.iconst 2, 1) := by decide +kernel
theorem dJ6_bitCount_0f7a4_17 : decode cJ6_bitCount_0f7a4 17 = .ok (.iushr, 1) := by decide +kernel
theorem dJ6_bitCount_0f7a4_18 : decode cJ6_bitCount_0f7a4 18 = .ok (.ldc_w 266, 3) := by decide +kernel
theorem dJ6_bitCount_0f7a4_21 : decode cJ6_bitCount_0f7a4 21 = .ok (.iand, 1) := by decide +kernel
theorem dJ6_bitCount_0f7a4_22 : decode cJ6_bitCount_0f7a4 22 = .ok (.iadd, 1) := by decide +kernel
theorem dJ6_bitCount_0f7a4_23 : decode cJ6_bitCount_0f7a4 23 = .ok (.istore_n 0, 1) := by decide +kernel
theorem dJ6_bitCount_0f7a4_24 : decode cJ6_bitCount_0f7a4 24 = .ok (.iload_n 0, 1) := by decide +kernel
theorem dJ6_bitCount_0f7a4_25 : decode cJ6_bitCount_0f7a4 25 = .ok (.iload_n 0, 1) := by decide +kernel
theorem dJ6_bitCount_0f7a4_26 : decode cJ6_bitCount_0f7a4 26 = .ok (.iconst 4, 1) := by decide +kernel
theorem dJ6_bitCount_0f7a4_27 : decode cJ6_bitCount_0f7a4 27 = .ok (.iushr, 1) := by decide +kernel
theorem dJ6_bitCount_0f7a4_28 : decode cJ6_bitCount_0f7a4 28 = .ok (.iadd, 1) := by decide +kernel
theorem dJ6_bitCount_0f7a4_29 : decode cJ6_bitCount_0f7a4 29 = .ok (.ldc_w 267, 3) := by decide +kernel
theorem dJ6_bitCount_0f7a4_32 : decode cJ6_bitCount_0f7a4 32 = .ok (.iand, 1) := by decide +kernel
theorem dJ6_bitCount_0f7a4_33 : decode cJ6_bitCount_0f7a4 33 = .ok (.istore_n 0, 1) := by decide +kernel
theorem dJ6_bitCount_0f7a4_34 : decode cJ6_bitCount_0f7a4 34 = .ok (.iload_n 0, 1) := by decide +kernel
theorem dJ6_bitCount_0f7a4_35 : decode cJ6_bitCount_0f7a4 35 = .ok (.iload_n 0, 1) := by decide +kernel
theorem dJ6_bitCount_0f7a4_36 : decode cJ6_bitCount_0f7a4 36 = .ok (.bipush 8, 2) := by decide +kernel
theorem dJ6_bitCount_0f7a4_38 : decode cJ6_bitCount_0f7a4 38 = .ok (.iushr, 1) := by decide +kernel
theorem dJ6_bitCount_0f7a4_39 : decode cJ6_bitCount_0f7a4 39 = .ok (.iadd, 1) := by decide +kernel
theorem dJ6_bitCount_0f7a4_40 : decode cJ6_bitCount_0f7a4 40 = .ok (.istore_n 0, 1) := by decide +kernel
theorem dJ6_bitCount_0f7a4_41 : decode cJ6_bitCount_0f7a4 41 = .ok (.iload_n 0, 1) := by decide +kernel
theorem dJ6_bitCount_0f7a4_42 : decode cJ6_bitCount_0f7a4 42 = .ok (.iload_n 0, 1) := by decide +kernel
theorem dJ6_bitCount_0f7a4_43 : decode cJ6_bitCount_0f7a4 43 = .ok (.bipush 16, 2) := by decide +kernel
theorem dJ6_bitCount_0f7a4_45 : decode cJ6_bitCount_0f7a4 45 = .ok (.iushr, 1) := by decide +kernel
theorem dJ6_bitCount_0f7a4_46 : decode cJ6_bitCount_0f7a4 46 = .ok (.iadd, 1) := by decide +kernel
theorem dJ6_bitCount_0f7a4_47 : decode cJ6_bitCount_0f7a4 47 = .ok (.istore_n 0, 1) := by decide +kernel
theorem dJ6_bitCount_0f7a4_48 : decode cJ6_bitCount_0f7a4 48 = .ok (.iload_n 0, 1) := by decide +kernel
theorem dJ6_bitCount_0f7a4_49 : decode cJ6_bitCount_0f7a4 49 = .ok (.bipush 63, 2) := by decide +kernel
theorem dJ6_bitCount_0f7a4_51 : decode cJ6_bitCount_0f7a4 51 = .ok (.iand, 1) := by decide +kernel
theorem dJ6_bitCount_0f7a4_52 : decode cJ6_bitCount_0f7a4 52 = .ok (.ireturn, 1) := by decide +kernel
theorem dJ9_floorDiv_7cf53_0 : decode cJ9_floorDiv_7cf53 0 = .ok (.iload_n 0, 1) := by decide +kernel
theorem dJ9_floorDiv_7cf53_1 : decode cJ9_floorDiv_7cf53 1 = .ok (.iload_n 1, 1) := by decide +kernel
theorem dJ9_floorDiv_7cf53_2 : decode cJ9_floorDiv_7cf53 2 = .ok (.idiv, 1) := by decide +kernel
theorem dJ9_floorDiv_7cf53_3 : decode cJ9_floorDiv_7cf53 3 = .ok (.istore_n 2, 1) := by decide +kernel
theorem dJ9_floorDiv_7cf53_4 : decode cJ9_floorDiv_7cf53 4 = .ok (.iload_n 0, 1) := by decide +kernel
theorem dJ9_floorDiv_7cf53_5 : decode cJ9_floorDiv_7cf53 5 = .ok (.iload_n 1, 1) := by decide +kernel
theorem dJ9_floorDiv_7cf53_6 : decode cJ9_floorDiv_7cf53 6 = .ok (.ixor, 1) := by decide +kernel
theorem dJ9_floorDiv_7cf53_7 : decode cJ9_floorDiv_7cf53 7 = .ok (.ifCond .ge 14, 3) := by decide +kernel
theorem dJ9_floorDiv_7cf53_10 : decode cJ9_floorDiv_7cf53 10 = .ok (.iload_n 2, 1) := by decide +kernel
theorem dJ9_floorDiv_7cf53_11 : decode cJ9_floorDiv_7cf53 11 = .ok (.iload_n 1, 1) := by decide +kernel
theorem dJ9_floorDiv_7cf53_12 : decode cJ9_floorDiv_7cf53 12 = .ok (.imul, 1) := by decide +kernel
theorem dJ9_floorDiv_7cf53_13 : decode cJ9_floorDiv_7cf53 13 = .ok (.iload_n 0, 1) := by decide +kernel
theorem dJ9_floorDiv_7cf53_14 : decode cJ9_floorDiv_7cf53 14 = .ok (.if_icmp .eq 7, 3) := by decide +kernel
theorem dJ9_floorDiv_7cf53_17 : decode cJ9_floorDiv_7cf53 17 = .ok (.iload_n 2, 1) := by decide +kernel
theorem dJ9_floorDiv_7cf53_18 : decode cJ9_floorDiv_7cf53 18 = .ok (.iconst 1, 1) := by decide +kernel
theorem dJ9_floorDiv_7cf53_19 : decode cJ9_floorDiv_7cf53 19 = .ok (.isub, 1) := by decide +kernel
theorem dJ9_floorDiv_7cf53_20 : decode cJ9_floorDiv_7cf53 20 = .ok (.ireturn, 1) := by decide +kernel
theorem dJ9_floorDiv_7cf53_21 : decode cJ9_floorDiv_7cf53 21 = .ok (.iload_n 2, 1) := by decide +kernel
theorem dJ9_floorDiv_7cf53_22 : decode cJ9_floorDiv_7cf53 22 = .ok (.ireturn, 1) := by decide +kernel
theorem dJ9_floorMod_7cf53_0 : decode cJ9_floorMod_7cf53 0 = .ok (.iload_n 0, 1) := by decide +kernel
theorem dJ9_floorMod_7cf53_1 : decode cJ9_floorMod_7cf53 1 = .ok (.iload_n 1, 1) := by decide +kernel
theorem dJ9_floorMod_7cf53_2 : decode cJ9_floorMod_7cf53 2 = .ok (.irem, 1) := by decide +kernel
theorem dJ9_floorMod_7cf53_3 : decode cJ9_floorMod_7cf53 3 = .ok (.istore_n 2, 1) := by decide +kernel
theorem dJ9_floorMod_7cf53_4 : decode cJ9_floorMod_7cf53 4 = .ok (.iload_n 0, 1) := by decide +kernel
theorem dJ9_floorMod_7cf53_5 : decode cJ9_floorMod_7cf53 5 = .ok (.iload_n 1, 1) := by decide +kernel
theorem dJ9_floorMod_7cf53_6 : decode cJ9_floorMod_7cf53 6 = .ok (.ixor, 1) := by decide +kernel
theorem dJ9_floorMod_7cf53_7 : decode cJ9_floorMod_7cf53 7 = .ok (.ifCond .ge 11, 3) := by decide +kernel
theorem dJ9_floorMod_7cf53_10 : decode cJ9_floorMod_7cf53 10 = .ok (.iload_n 2, 1) := by decide +kernel
theorem dJ9_floorMod_7cf53_11 : decode cJ9_floorMod_7cf53 11 = .ok (.ifCond .eq 7, 3) := by decide +kernel
theorem dJ9_floorMod_7cf53_14 : decode cJ9_floorMod_7cf53 14 = .ok (.iload_n 2, 1) := by decide +kernel
theorem dJ9_floorMod_7cf53_15 : decode cJ9_floorMod_7cf53 15 = .ok (.iload_n 1, 1) := by decide +kernel
theorem dJ9_floorMod_7cf53_16 : decode cJ9_floorMod_7cf53 16 = .ok (.iadd, 1) := by decide +kernel
theorem dJ9_floorMod_7cf53_17 : decode cJ9_floorMod_7cf53 17 = .ok (.ireturn, 1) := by decide +kernel
theorem dJ9_floorMod_7cf53_18 : decode cJ9_floorMod_7cf53 18 = .ok (.iload_n 2, 1) := by decide +kernel
theorem dJ9_floorMod_7cf53_19 : decode cJ9_floorMod_7cf53 19 = .ok (.ireturn, 1) := by decide +kernel
theorem dJ9_abs_0f7a4_0 : decode cJ9_abs_0f7a4 0 = .ok (.iload_n 0, 1) := by decide +kernel
theorem dJ9_abs_0f7a4_1 : decode cJ9_abs_0f7a4 1 = .ok (.ifCond .ge 8, 3) := by decide +kernel
theorem dJ9_abs_0f7a4_4 : decode cJ9_abs_0f7a4 4 = .ok (.iload_n 0, 1) := by decide +kernel
theorem dJ9_abs_0f7a4_5 : decode cJ9_abs_0f7a4 5 = .ok (.ineg, 1) := by decide +kernel
theorem dJ9_abs_0f7a4_6 : decode cJ9_abs_0f7a4 6 = .ok (.goto 4, 3) := by decide +kernel
theorem dJ9_abs_0f7a4_9 : decode cJ9_abs_0f7a4 9 = .ok (.iload_n 0, 1) := by decide +kernel
theorem dJ9_abs_0f7a4_10 : decode cJ9_abs_0f7a4 10 = .ok (.ireturn, 1) := by decide +kernel
theorem dJ9_max_7cf53_0 : decode cJ9_max_7cf53 0 = .ok (.iload_n 0, 1) := by decide +kernel
theorem dJ9_max_7cf53_1 : decode cJ9_max_7cf53 1 = .ok (.iload_n 1, 1) := by decide +kernel
theorem dJ9_max_7cf53_2 : decode cJ9_max_7cf53 2 = .ok (.if_icmp .lt 7, 3) := by decide +kernel
theorem dJ9_max_7cf53_5 : decode cJ9_max_7cf53 5 = .ok (.iload_n 0, 1) := by decide +kernel
theorem dJ9_max_7cf53_6 : decode cJ9_max_7cf53 6 = .ok (.goto 4, 3) := by decide +kernel
theorem dJ9_max_7cf53_9 : decode cJ9_max_7cf53 9 = .ok (.iload_n 1, 1) := by decide +kernel
theorem dJ9_max_7cf53_10 : decode cJ9_max_7cf53 10 = .ok (.ireturn, 1) := by decide +kernel
theorem dJ9_min_7cf53_0 : decode cJ9_min_7cf53 0 = .ok (.iload_n 0, 1) := by decide +kernel
theorem dJ9_min_7cf53_1 : decode cJ9_min_7cf53 1 = .ok (.iload_n 1, 1) := by decide +kernel
theorem dJ9_min_7cf53_2 : decode cJ9_min_7cf53 2 = .ok (.if_icmp .gt 7, 3) := by decide +kernel
theorem dJ9_min_7cf53_5 : decode cJ9_min_7cf53 5 = .ok (.iload_n 0, 1) := by decide +kernel
theorem dJ9_min_7cf53_6 : decode cJ9_min_7cf53 6 = .ok (.goto 4, 3) := by decide +kernel
theorem dJ9_min_7cf53_9 : decode cJ9_min_7cf53 9 = .ok (.iload_n 1, 1) := by decide +kernel
theorem dJ9_min_7cf53_10 : decode cJ9_min_7cf53 10 = .ok (.ireturn, 1) := by decide +kernel
theorem dJ7_fill_53178_0 : decode cJ7_fill_53178 0 = .ok (.iconst 0, 1) := by decide +kernel
theorem dJ7_fill_53178_1 : decode cJ7_fill_53178 1 = .ok (.istore_n 2, 1) := by decide +kernel
theorem dJ7_fill_53178_2 : decode cJ7_fill_53178 2 = .ok (.aload_n 0, 1) := by decide +kernel
theorem dJ7_fill_53178_3 : decode cJ7_fill_53178 3 = .ok (.arraylength, 1) := by decide +kernel
theorem dJ7_fill_53178_4 : decode cJ7_fill_53178 4 = .ok (.istore_n 3, 1) := by decide +kernel
theorem dJ7_fill_53178_5 : decode cJ7_fill_53178 5 = .ok (.iload_n 2, 1) := by decide +kernel
theorem dJ7_fill_53178_6 : decode cJ7_fill_53178 6 = .ok (.iload_n 3, 1) := by decide +kernel
theorem dJ7_fill_53178_7 : decode cJ7_fill_53178 7 = .ok (.if_icmp .ge 13, 3) := by decide +kernel
theorem dJ7_fill_53178_10 : decode cJ7_fill_53178 10 = .ok (.aload_n 0, 1) := by decide +kernel
theorem dJ7_fill_53178_11 : decode cJ7_fill_53178 11 = .ok (.iload_n 2, 1) := by decide +kernel
theorem dJ7_fill_53178_12 : decode cJ7_fill_53178 12 = .ok (.iload_n 1, 1) := by decide +kernel
theorem dJ7_fill_53178_13 : decode cJ7_fill_53178 13 = .ok (.iastore, 1) := by decide +kernel
theorem dJ7_fill_53178_14 : decode cJ7_fill_53178 14 = .ok (.iinc 2 1, 3) := by decide +kernel
theorem dJ7_fill_53178_17 : decode cJ7_fill_53178 17 = .ok (.goto (-12), 3) := by decide +kernel
theorem dJ7_fill_53178_20 : decode cJ7_fill_53178 20 = .ok (.return_, 1) := by decide +kernel
theorem dJ7_copyOf_59c91_0 : decode cJ7_copyOf_59c91 0 = .ok (.iload_n 1, 1) := by decide +kernel
theorem dJ7_copyOf_59c91_1 : decode cJ7_copyOf_59c91 1 = .ok (.aload_n 0, 1) := by decide +kernel
theorem dJ7_copyOf_59c91_2 : decode cJ7_copyOf_59c91 2 = .ok (.arraylength, 1) := by decide +kernel
theorem dJ7_copyOf_59c91_3 : decode cJ7_copyOf_59c91 3 = .ok (.if_icmp .ne 11, 3) := by decide +kernel
theorem dJ7_copyOf_59c91_6 : decode cJ7_copyOf_59c91 6 = .ok (.aload_n 0, 1) := by decide +kernel
theorem dJ7_copyOf_59c91_7 : decode cJ7_copyOf_59c91 7 = .ok (.invokevirtual 316, 3) := by decide +kernel
theorem dJ7_copyOf_59c91_10 : decode cJ7_copyOf_59c91 10 = .ok (.checkcast 317, 3) := by decide +kernel
theorem dJ7_copyOf_59c91_13 : decode cJ7_copyOf_59c91 13 = .ok (.areturn, 1) := by decide +kernel
theorem dJ7_copyOf_59c91_14 : decode cJ7_copyOf_59c91 14 = .ok (.iload_n 1, 1) := by decide +kernel
theorem dJ7_copyOf_59c91_15 : decode cJ7_copyOf_59c91 15 = .ok (.newarray .int, 2) := by decide +kernel
theorem dJ7_copyOf_59c91_17 : decode cJ7_copyOf_59c91 17 = .ok (.astore_n 2, 1) := by decide +kernel
theorem dJ7_copyOf_59c91_18 : decode cJ7_copyOf_59c91 18 = .ok (.aload_n 0, 1) := by decide +kernel
theorem dJ7_copyOf_59c91_19 : decode cJ7_copyOf_59c91 19 = .ok (.iconst 0, 1) := by decide +kernel
theorem dJ7_copyOf_59c91_20 : decode cJ7_copyOf_59c91 20 = .ok (.aload_n 2, 1) := by decide +kernel
theorem dJ7_copyOf_59c91_21 : decode cJ7_copyOf_59c91 21 = .ok (.iconst 0, 1) := by decide +kernel
theorem dJ7_copyOf_59c91_22 : decode cJ7_copyOf_59c91 22 = .ok (.aload_n 0, 1) := by decide +kernel
theorem dJ7_copyOf_59c91_23 : decode cJ7_copyOf_59c91 23 = .ok (.arraylength, 1) := by decide +kernel
theorem dJ7_copyOf_59c91_24 : decode cJ7_copyOf_59c91 24 = .ok (.iload_n 1, 1) := by decide +kernel
theorem dJ7_copyOf_59c91_25 : decode cJ7_copyOf_59c91 25 = .ok (.invokestatic 304, 3) := by decide +kernel
theorem dJ7_copyOf_59c91_28 : decode cJ7_copyOf_59c91 28 = .ok (.invokestatic 150, 3) := by decide +kernel
theorem dJ7_copyOf_59c91_31 : decode cJ7_copyOf_59c91 31 = .ok (.aload_n 2, 1) := by decide +kernel
theorem dJ7_copyOf_59c91_32 : decode cJ7_copyOf_59c91 32 = .ok (.areturn, 1) := by decide +kernel
theorem dL_addNote_0 : decode cL_addNote 0 = .ok (.aload 5, 2) := by decide +kernel
theorem dL_addNote_2 : decode cL_addNote 2 = .ok (.iconst 0, 1) := by decide +kernel
theorem dL_addNote_3 : decode cL_addNote 3 = .ok (.aload_n 0, 1) := by decide +kernel
theorem dL_addNote_4 : decode cL_addNote 4 = .ok (.iload_n 1, 1) := by decide +kernel
theorem dL_addNote_5 : decode cL_addNote 5 = .ok (.iload_n 2, 1) := by decide +kernel
theorem dL_addNote_6 : decode cL_addNote 6 = .ok (.iload_n 3, 1) := by decide +kernel
theorem dL_addNote_7 : decode cL_addNote 7 = .ok (.iload 4, 2) := by decide +kernel
theorem dL_addNote_9 : decode cL_addNote 9 = .ok (.invokevirtual 7, 3) := by decide +kernel
theorem dL_addNote_12 : decode cL_addNote 12 = .ok (.i2l, 1) := by decide +kernel
theorem dL_addNote_13 : decode cL_addNote 13 = .ok (.lastore, 1) := by decide +kernel
theorem dL_addNote_14 : decode cL_addNote 14 = .ok (.goto 15, 3) := by decide +kernel
theorem dL_addNote_17 : decode cL_addNote 17 = .ok (.astore 6, 2) := by decide +kernel
theorem dL_addNote_19 : decode cL_addNote 19 = .ok (.iconst 1, 1) := by decide +kernel
theorem dL_addNote_20 : decode cL_addNote 20 = .ok (.ireturn, 1) := by decide +kernel
theorem dL_addNote_21 : decode cL_addNote 21 = .ok (.astore 6, 2) := by decide +kernel
theorem dL_addNote_23 : decode cL_addNote 23 = .ok (.iconst 2, 1) := by decide +kernel
theorem dL_addNote_24 : decode cL_addNote 24 = .ok (.ireturn, 1) := by decide +kernel
theorem dL_addNote_25 : decode cL_addNote 25 = .ok (.astore 6, 2) := by decide +kernel
theorem dL_addNote_27 : decode cL_addNote 27 = .ok (.iconst 3, 1) := by decide +kernel
theorem dL_addNote_28 : decode cL_addNote 28 = .ok (.ireturn, 1) := by decide +kernel
theorem dL_addNote_29 : decode cL_addNote 29 = .ok (.iconst 0, 1) := by decide +kernel
theorem dL_addNote_30 : decode cL_addNote 30 = .ok (.ireturn, 1) := by decide +kernel
theorem dL_addRest_0 : decode cL_addRest 0 = .ok (.aload_n 3, 1) := by decide +kernel
theorem dL_addRest_1 : decode cL_addRest 1 = .ok (.iconst 0, 1) := by decide +kernel
theorem dL_addRest_2 : decode cL_addRest 2 = .ok (.aload_n 0, 1) := by decide +kernel
theorem dL_addRest_3 : decode cL_addRest 3 = .ok (.iload_n 1, 1) := by decide +kernel
theorem dL_addRest_4 : decode cL_addRest 4 = .ok (.iload_n 2, 1) := by decide +kernel
theorem dL_addRest_5 : decode cL_addRest 5 = .ok (.invokevirtual 19, 3) := by decide +kernel
theorem dL_addRest_8 : decode cL_addRest 8 = .ok (.i2l, 1) := by decide +kernel
theorem dL_addRest_9 : decode cL_addRest 9 = .ok (.lastore, 1) := by decide +kernel
theorem dL_addRest_10 : decode cL_addRest 10 = .ok (.goto 15, 3) := by decide +kernel
theorem dL_addRest_13 : decode cL_addRest 13 = .ok (.astore 4, 2) := by decide +kernel
theorem dL_addRest_15 : decode cL_addRest 15 = .ok (.iconst 1, 1) := by decide +kernel
theorem dL_addRest_16 : decode cL_addRest 16 = .ok (.ireturn, 1) := by decide +kernel
theorem dL_addRest_17 : decode cL_addRest 17 = .ok (.astore 4, 2) := by decide +kernel
theorem dL_addRest_19 : decode cL_addRest 19 = .ok (.iconst 2, 1) := by decide +kernel
theorem dL_addRest_20 : decode cL_addRest 20 = .ok (.ireturn, 1) := by decide +kernel
theorem dL_addRest_21 : decode cL_addRest 21 = .ok (.astore 4, 2) := by decide +kernel
theorem dL_addRest_23 : decode cL_addRest 23 = .ok (.iconst 3, 1) := by decide +kernel
theorem dL_addRest_24 : decode cL_addRest 24 = .ok (.ireturn, 1) := by decide +kernel
theorem dL_addRest_25 : decode cL_addRest 25 = .ok (.iconst 0, 1) := by decide +kernel
theorem dL_addRest_26 : decode cL_addRest 26 = .ok (.ireturn, 1) := by decide +kernel
theorem dL_takeLast_0 : decode cL_takeLast 0 = .ok (.aload_n 2, 1) := by decide +kernel
theorem dL_takeLast_1 : decode cL_takeLast 1 = .ok (.iconst 0, 1) := by decide +kernel
theorem dL_takeLast_2 : decode cL_takeLast 2 = .ok (.aload_n 0, 1) := by decide +kernel
theorem dL_takeLast_3 : decode cL_takeLast 3 = .ok (.iload_n 1, 1) := by decide +kernel
theorem dL_takeLast_4 : decode cL_takeLast 4 = .ok (.invokevirtual 23, 3) := by decide +kernel
theorem dL_takeLast_7 : decode cL_takeLast 7 = .ok (.i2l, 1) := by decide +kernel
theorem dL_takeLast_8 : decode cL_takeLast 8 = .ok (.lastore, 1) := by decide +kernel
theorem dL_takeLast_9 : decode cL_takeLast 9 = .ok (.goto 9, 3) := by decide +kernel
theorem dL_takeLast_12 : decode cL_takeLast 12 = .ok (.astore_n 3, 1) := by decide +kernel
theorem dL_takeLast_13 : decode cL_takeLast 13 = .ok (.iconst 1, 1) := by decide +kernel
theorem dL_takeLast_14 : decode cL_takeLast 14 = .ok (.ireturn, 1) := by decide +kernel
theorem dL_takeLast_15 : decode cL_takeLast 15 = .ok (.astore_n 3, 1) := by decide +kernel
theorem dL_takeLast_16 : decode cL_takeLast 16 = .ok (.iconst 2, 1) := by decide +kernel
theorem dL_takeLast_17 : decode cL_takeLast 17 = .ok (.ireturn, 1) := by decide +kernel
theorem dL_takeLast_18 : decode cL_takeLast 18 = .ok (.iconst 0, 1) := by decide +kernel
theorem dL_takeLast_19 : decode cL_takeLast 19 = .ok (.ireturn, 1) := by decide +kernel
theorem dL_setPitch_0 : decode cL_setPitch 0 = .ok (.aload 5, 2) := by decide +kernel
theorem dL_setPitch_2 : decode cL_setPitch 2 = .ok (.iconst 0, 1) := by decide +kernel
theorem dL_setPitch_3 : decode cL_setPitch 3 = .ok (.aload_n 0, 1) := by decide +kernel
theorem dL_setPitch_4 : decode cL_setPitch 4 = .ok (.iload_n 1, 1) := by decide +kernel
theorem dL_setPitch_5 : decode cL_setPitch 5 = .ok (.iload_n 2, 1) := by decide +kernel
theorem dL_setPitch_6 : decode cL_setPitch 6 = .ok (.iload_n 3, 1) := by decide +kernel
theorem dL_setPitch_7 : decode cL_setPitch 7 = .ok (.iload 4, 2) := by decide +kernel
theorem dL_setPitch_9 : decode cL_setPitch 9 = .ok (.invokevirtual 27, 3) := by decide +kernel
theorem dL_setPitch_12 : decode cL_setPitch 12 = .ok (.i2l, 1) := by decide +kernel
theorem dL_setPitch_13 : decode cL_setPitch 13 = .ok (.lastore, 1) := by decide +kernel
theorem dL_setPitch_14 : decode cL_setPitch 14 = .ok (.goto 15, 3) := by decide +kernel
theorem dL_setPitch_17 : decode cL_setPitch 17 = .ok (.astore 6, 2) := by decide +kernel
theorem dL_setPitch_19 : decode cL_setPitch 19 = .ok (.iconst 1, 1) := by decide +kernel
theorem dL_setPitch_20 : decode cL_setPitch 20 = .ok (.ireturn, 1) := by decide +kernel
theorem dL_setPitch_21 : decode cL_setPitch 21 = .ok (.astore 6, 2) := by decide +kernel
theorem dL_setPitch_23 : decode cL_setPitch 23 = .ok (.iconst 2, 1) := by decide +kernel
theorem dL_setPitch_24 : decode cL_setPitch 24 = .ok (.ireturn, 1) := by decide +kernel
theorem dL_setPitch_25 : decode cL_setPitch 25 = .ok (.astore 6, 2) := by decide +kernel
theorem dL_setPitch_27 : decode cL_setPitch 27 = .ok (.iconst 3, 1) := by decide +kernel
theorem dL_setPitch_28 : decode cL_setPitch 28 = .ok (.ireturn, 1) := by decide +kernel
theorem dL_setPitch_29 : decode cL_setPitch 29 = .ok (.iconst 0, 1) := by decide +kernel
theorem dL_setPitch_30 : decode cL_setPitch 30 = .ok (.ireturn, 1) := by decide +kernel
theorem dL_setMetre_0 : decode cL_setMetre 0 = .ok (.aload 4, 2) := by decide +kernel
theorem dL_setMetre_2 : decode cL_setMetre 2 = .ok (.iconst 0, 1) := by decide +kernel
theorem dL_setMetre_3 : decode cL_setMetre 3 = .ok (.aload_n 0, 1) := by decide +kernel
theorem dL_setMetre_4 : decode cL_setMetre 4 = .ok (.iload_n 1, 1) := by decide +kernel
theorem dL_setMetre_5 : decode cL_setMetre 5 = .ok (.iload_n 2, 1) := by decide +kernel
theorem dL_setMetre_6 : decode cL_setMetre 6 = .ok (.iload_n 3, 1) := by decide +kernel
theorem dL_setMetre_7 : decode cL_setMetre 7 = .ok (.invokevirtual 30, 3) := by decide +kernel
theorem dL_setMetre_10 : decode cL_setMetre 10 = .ok (.i2l, 1) := by decide +kernel
theorem dL_setMetre_11 : decode cL_setMetre 11 = .ok (.lastore, 1) := by decide +kernel
theorem dL_setMetre_12 : decode cL_setMetre 12 = .ok (.goto 11, 3) := by decide +kernel
theorem dL_setMetre_15 : decode cL_setMetre 15 = .ok (.astore 5, 2) := by decide +kernel
theorem dL_setMetre_17 : decode cL_setMetre 17 = .ok (.iconst 1, 1) := by decide +kernel
theorem dL_setMetre_18 : decode cL_setMetre 18 = .ok (.ireturn, 1) := by decide +kernel
theorem dL_setMetre_19 : decode cL_setMetre 19 = .ok (.astore 5, 2) := by decide +kernel
theorem dL_setMetre_21 : decode cL_setMetre 21 = .ok (.iconst 2, 1) := by decide +kernel
theorem dL_setMetre_22 : decode cL_setMetre 22 = .ok (.ireturn, 1) := by decide +kernel
theorem dL_setMetre_23 : decode cL_setMetre 23 = .ok (.iconst 0, 1) := by decide +kernel
theorem dL_setMetre_24 : decode cL_setMetre 24 = .ok (.ireturn, 1) := by decide +kernel
theorem dL_setKey_0 : decode cL_setKey 0 = .ok (.aload_n 3, 1) := by decide +kernel
theorem dL_setKey_1 : decode cL_setKey 1 = .ok (.iconst 0, 1) := by decide +kernel
theorem dL_setKey_2 : decode cL_setKey 2 = .ok (.aload_n 0, 1) := by decide +kernel
theorem dL_setKey_3 : decode cL_setKey 3 = .ok (.iload_n 1, 1) := by decide +kernel
theorem dL_setKey_4 : decode cL_setKey 4 = .ok (.iload_n 2, 1) := by decide +kernel
theorem dL_setKey_5 : decode cL_setKey 5 = .ok (.invokevirtual 34, 3) := by decide +kernel
theorem dL_setKey_8 : decode cL_setKey 8 = .ok (.i2l, 1) := by decide +kernel
theorem dL_setKey_9 : decode cL_setKey 9 = .ok (.lastore, 1) := by decide +kernel
theorem dL_setKey_10 : decode cL_setKey 10 = .ok (.goto 11, 3) := by decide +kernel
theorem dL_setKey_13 : decode cL_setKey 13 = .ok (.astore 4, 2) := by decide +kernel
theorem dL_setKey_15 : decode cL_setKey 15 = .ok (.iconst 1, 1) := by decide +kernel
theorem dL_setKey_16 : decode cL_setKey 16 = .ok (.ireturn, 1) := by decide +kernel
theorem dL_setKey_17 : decode cL_setKey 17 = .ok (.astore 4, 2) := by decide +kernel
theorem dL_setKey_19 : decode cL_setKey 19 = .ok (.iconst 2, 1) := by decide +kernel
theorem dL_setKey_20 : decode cL_setKey 20 = .ok (.ireturn, 1) := by decide +kernel
theorem dL_setKey_21 : decode cL_setKey 21 = .ok (.iconst 0, 1) := by decide +kernel
theorem dL_setKey_22 : decode cL_setKey 22 = .ok (.ireturn, 1) := by decide +kernel
theorem dL_setRange_0 : decode cL_setRange 0 = .ok (.aload 4, 2) := by decide +kernel
theorem dL_setRange_2 : decode cL_setRange 2 = .ok (.iconst 0, 1) := by decide +kernel
theorem dL_setRange_3 : decode cL_setRange 3 = .ok (.aload_n 0, 1) := by decide +kernel
theorem dL_setRange_4 : decode cL_setRange 4 = .ok (.iload_n 1, 1) := by decide +kernel
theorem dL_setRange_5 : decode cL_setRange 5 = .ok (.iload_n 2, 1) := by decide +kernel
theorem dL_setRange_6 : decode cL_setRange 6 = .ok (.iload_n 3, 1) := by decide +kernel
theorem dL_setRange_7 : decode cL_setRange 7 = .ok (.invokevirtual 37, 3) := by decide +kernel
theorem dL_setRange_10 : decode cL_setRange 10 = .ok (.i2l, 1) := by decide +kernel
theorem dL_setRange_11 : decode cL_setRange 11 = .ok (.lastore, 1) := by decide +kernel
theorem dL_setRange_12 : decode cL_setRange 12 = .ok (.goto 11, 3) := by decide +kernel
theorem dL_setRange_15 : decode cL_setRange 15 = .ok (.astore 5, 2) := by decide +kernel
theorem dL_setRange_17 : decode cL_setRange 17 = .ok (.iconst 1, 1) := by decide +kernel
theorem dL_setRange_18 : decode cL_setRange 18 = .ok (.ireturn, 1) := by decide +kernel
theorem dL_setRange_19 : decode cL_setRange 19 = .ok (.astore 5, 2) := by decide +kernel
theorem dL_setRange_21 : decode cL_setRange 21 = .ok (.iconst 2, 1) := by decide +kernel
theorem dL_setRange_22 : decode cL_setRange 22 = .ok (.ireturn, 1) := by decide +kernel
theorem dL_setRange_23 : decode cL_setRange 23 = .ok (.iconst 0, 1) := by decide +kernel
theorem dL_setRange_24 : decode cL_setRange 24 = .ok (.ireturn, 1) := by decide +kernel
theorem dL_setShift_0 : decode cL_setShift 0 = .ok (.aload 4, 2) := by decide +kernel
theorem dL_setShift_2 : decode cL_setShift 2 = .ok (.iconst 0, 1) := by decide +kernel
theorem dL_setShift_3 : decode cL_setShift 3 = .ok (.aload_n 0, 1) := by decide +kernel
theorem dL_setShift_4 : decode cL_setShift 4 = .ok (.iload_n 1, 1) := by decide +kernel
theorem dL_setShift_5 : decode cL_setShift 5 = .ok (.iload_n 2, 1) := by decide +kernel
theorem dL_setShift_6 : decode cL_setShift 6 = .ok (.iload_n 3, 1) := by decide +kernel
theorem dL_setShift_7 : decode cL_setShift 7 = .ok (.invokevirtual 40, 3) := by decide +kernel
theorem dL_setShift_10 : decode cL_setShift 10 = .ok (.i2l, 1) := by decide +kernel
theorem dL_setShift_11 : decode cL_setShift 11 = .ok (.lastore, 1) := by decide +kernel
theorem dL_setShift_12 : decode cL_setShift 12 = .ok (.goto 11, 3) := by decide +kernel
theorem dL_setShift_15 : decode cL_setShift 15 = .ok (.astore 5, 2) := by decide +kernel
theorem dL_setShift_17 : decode cL_setShift 17 = .ok (.iconst 1, 1) := by decide +kernel
theorem dL_setShift_18 : decode cL_setShift 18 = .ok (.ireturn, 1) := by decide +kernel
theorem dL_setShift_19 : decode cL_setShift 19 = .ok (.astore 5, 2) := by decide +kernel
theorem dL_setShift_21 : decode cL_setShift 21 = .ok (.iconst 2, 1) := by decide +kernel
theorem dL_setShift_22 : decode cL_setShift 22 = .ok (.ireturn, 1) := by decide +kernel
theorem dL_setShift_23 : decode cL_setShift 23 = .ok (.iconst 0, 1) := by decide +kernel
theorem dL_setShift_24 : decode cL_setShift 24 = .ok (.ireturn, 1) := by decide +kernel
theorem dL_events_0 : decode cL_events 0 = .ok (.aload_n 2, 1) := by decide +kernel
theorem dL_events_1 : decode cL_events 1 = .ok (.iconst 0, 1) := by decide +kernel
theorem dL_events_2 : decode cL_events 2 = .ok (.aload_n 0, 1) := by decide +kernel
theorem dL_events_3 : decode cL_events 3 = .ok (.iload_n 1, 1) := by decide +kernel
theorem dL_events_4 : decode cL_events 4 = .ok (.invokevirtual 43, 3) := by decide +kernel
theorem dL_events_7 : decode cL_events 7 = .ok (.i2l, 1) := by decide +kernel
theorem dL_events_8 : decode cL_events 8 = .ok (.lastore, 1) := by decide +kernel
theorem dL_events_9 : decode cL_events 9 = .ok (.goto 6, 3) := by decide +kernel
theorem dL_events_12 : decode cL_events 12 = .ok (.astore_n 3, 1) := by decide +kernel
theorem dL_events_13 : decode cL_events 13 = .ok (.iconst 1, 1) := by decide +kernel
theorem dL_events_14 : decode cL_events 14 = .ok (.ireturn, 1) := by decide +kernel
theorem dL_events_15 : decode cL_events 15 = .ok (.iconst 0, 1) := by decide +kernel
theorem dL_events_16 : decode cL_events 16 = .ok (.ireturn, 1) := by decide +kernel
theorem dL_beginOf_0 : decode cL_beginOf 0 = .ok (.aload_n 3, 1) := by decide +kernel
theorem dL_beginOf_1 : decode cL_beginOf 1 = .ok (.iconst 0, 1) := by decide +kernel
theorem dL_beginOf_2 : decode cL_beginOf 2 = .ok (.aload_n 0, 1) := by decide +kernel
theorem dL_beginOf_3 : decode cL_beginOf 3 = .ok (.iload_n 1, 1) := by decide +kernel
theorem dL_beginOf_4 : decode cL_beginOf 4 = .ok (.iload_n 2, 1) := by decide +kernel
theorem dL_beginOf_5 : decode cL_beginOf 5 = .ok (.invokevirtual 46, 3) := by decide +kernel
theorem dL_beginOf_8 : decode cL_beginOf 8 = .ok (.i2l, 1) := by decide +kernel
theorem dL_beginOf_9 : decode cL_beginOf 9 = .ok (.lastore, 1) := by decide +kernel
theorem dL_beginOf_10 : decode cL_beginOf 10 = .ok (.goto 7, 3) := by decide +kernel
theorem dL_beginOf_13 : decode cL_beginOf 13 = .ok (.astore 4, 2) := by decide +kernel
theorem dL_beginOf_15 : decode cL_beginOf 15 = .ok (.iconst 1, 1) := by decide +kernel
theorem dL_beginOf_16 : decode cL_beginOf 16 = .ok (.ireturn, 1) := by decide +kernel
theorem dL_beginOf_17 : decode cL_beginOf 17 = .ok (.iconst 0, 1) := by decide +kernel
theorem dL_beginOf_18 : decode cL_beginOf 18 = .ok (.ireturn, 1) := by decide +kernel
theorem dL_heightOf_0 : decode cL_heightOf 0 = .ok (.aload_n 3, 1) := by decide +kernel
theorem dL_heightOf_1 : decode cL_heightOf 1 = .ok (.iconst 0, 1) := by decide +kernel
theorem dL_heightOf_2 : decode cL_heightOf 2 = .ok (.aload_n 0, 1) := by decide +kernel
theorem dL_heightOf_3 : decode cL_heightOf 3 = .ok (.iload_n 1, 1) := by decide +kernel
theorem dL_heightOf_4 : decode cL_heightOf 4 = .ok (.iload_n 2, 1) := by decide +kernel
theorem dL_heightOf_5 : decode cL_heightOf 5 = .ok (.invokevirtual 49, 3) := by decide +kernel
theorem dL_heightOf_8 : decode cL_heightOf 8 = .ok (.i2l, 1) := by decide +kernel
theorem dL_heightOf_9 : decode cL_heightOf 9 = .ok (.lastore, 1) := by decide +kernel
theorem dL_heightOf_10 : decode cL_heightOf 10 = .ok (.goto 7, 3) := by decide +kernel
theorem dL_heightOf_13 : decode cL_heightOf 13 = .ok (.astore 4, 2) := by decide +kernel
theorem dL_heightOf_15 : decode cL_heightOf 15 = .ok (.iconst 1, 1) := by decide +kernel
theorem dL_heightOf_16 : decode cL_heightOf 16 = .ok (.ireturn, 1) := by decide +kernel
theorem dL_heightOf_17 : decode cL_heightOf 17 = .ok (.iconst 0, 1) := by decide +kernel
theorem dL_heightOf_18 : decode cL_heightOf 18 = .ok (.ireturn, 1) := by decide +kernel
theorem dL_barOf_0 : decode cL_barOf 0 = .ok (.aload_n 3, 1) := by decide +kernel
theorem dL_barOf_1 : decode cL_barOf 1 = .ok (.iconst 0, 1) := by decide +kernel
theorem dL_barOf_2 : decode cL_barOf 2 = .ok (.aload_n 0, 1) := by decide +kernel
theorem dL_barOf_3 : decode cL_barOf 3 = .ok (.iload_n 1, 1) := by decide +kernel
theorem dL_barOf_4 : decode cL_barOf 4 = .ok (.iload_n 2, 1) := by decide +kernel
theorem dL_barOf_5 : decode cL_barOf 5 = .ok (.invokevirtual 52, 3) := by decide +kernel
theorem dL_barOf_8 : decode cL_barOf 8 = .ok (.i2l, 1) := by decide +kernel
theorem dL_barOf_9 : decode cL_barOf 9 = .ok (.lastore, 1) := by decide +kernel
theorem dL_barOf_10 : decode cL_barOf 10 = .ok (.goto 7, 3) := by decide +kernel
theorem dL_barOf_13 : decode cL_barOf 13 = .ok (.astore 4, 2) := by decide +kernel
theorem dL_barOf_15 : decode cL_barOf 15 = .ok (.iconst 1, 1) := by decide +kernel
theorem dL_barOf_16 : decode cL_barOf 16 = .ok (.ireturn, 1) := by decide +kernel
theorem dL_barOf_17 : decode cL_barOf 17 = .ok (.iconst 0, 1) := by decide +kernel
theorem dL_barOf_18 : decode cL_barOf 18 = .ok (.ireturn, 1) := by decide +kernel
theorem dL_writtenPlace_0 : decode cL_writtenPlace 0 = .ok (.aload_n 3, 1) := by decide +kernel
theorem dL_writtenPlace_1 : decode cL_writtenPlace 1 = .ok (.iconst 0, 1) := by decide +kernel
theorem dL_writtenPlace_2 : decode cL_writtenPlace 2 = .ok (.aload_n 0, 1) := by decide +kernel
theorem dL_writtenPlace_3 : decode cL_writtenPlace 3 = .ok (.iload_n 1, 1) := by decide +kernel
theorem dL_writtenPlace_4 : decode cL_writtenPlace 4 = .ok (.iload_n 2, 1) := by decide +kernel
theorem dL_writtenPlace_5 : decode cL_writtenPlace 5 = .ok (.invokevirtual 55, 3) := by decide +kernel
theorem dL_writtenPlace_8 : decode cL_writtenPlace 8 = .ok (.i2l, 1) := by decide +kernel
theorem dL_writtenPlace_9 : decode cL_writtenPlace 9 = .ok (.lastore, 1) := by decide +kernel
theorem dL_writtenPlace_10 : decode cL_writtenPlace 10 = .ok (.goto 7, 3) := by decide +kernel
theorem dL_writtenPlace_13 : decode cL_writtenPlace 13 = .ok (.astore 4, 2) := by decide +kernel
theorem dL_writtenPlace_15 : decode cL_writtenPlace 15 = .ok (.iconst 1, 1) := by decide +kernel
theorem dL_writtenPlace_16 : decode cL_writtenPlace 16 = .ok (.ireturn, 1) := by decide +kernel
theorem dL_writtenPlace_17 : decode cL_writtenPlace 17 = .ok (.iconst 0, 1) := by decide +kernel
theorem dL_writtenPlace_18 : decode cL_writtenPlace 18 = .ok (.ireturn, 1) := by decide +kernel
theorem dL_writtenAlter_0 : decode cL_writtenAlter 0 = .ok (.aload_n 3, 1) := by decide +kernel
theorem dL_writtenAlter_1 : decode cL_writtenAlter 1 = .ok (.iconst 0, 1) := by decide +kernel
theorem dL_writtenAlter_2 : decode cL_writtenAlter 2 = .ok (.aload_n 0, 1) := by decide +kernel
theorem dL_writtenAlter_3 : decode cL_writtenAlter 3 = .ok (.iload_n 1, 1) := by decide +kernel
theorem dL_writtenAlter_4 : decode cL_writtenAlter 4 = .ok (.iload_n 2, 1) := by decide +kernel
theorem dL_writtenAlter_5 : decode cL_writtenAlter 5 = .ok (.invokevirtual 58, 3) := by decide +kernel
theorem dL_writtenAlter_8 : decode cL_writtenAlter 8 = .ok (.i2l, 1) := by decide +kernel
theorem dL_writtenAlter_9 : decode cL_writtenAlter 9 = .ok (.lastore, 1) := by decide +kernel
theorem dL_writtenAlter_10 : decode cL_writtenAlter 10 = .ok (.goto 7, 3) := by decide +kernel
theorem dL_writtenAlter_13 : decode cL_writtenAlter 13 = .ok (.astore 4, 2) := by decide +kernel
theorem dL_writtenAlter_15 : decode cL_writtenAlter 15 = .ok (.iconst 1, 1) := by decide +kernel
theorem dL_writtenAlter_16 : decode cL_writtenAlter 16 = .ok (.ireturn, 1) := by decide +kernel
theorem dL_writtenAlter_17 : decode cL_writtenAlter 17 = .ok (.iconst 0, 1) := by decide +kernel
theorem dL_writtenAlter_18 : decode cL_writtenAlter 18 = .ok (.ireturn, 1) := by decide +kernel
theorem dL_alterIn_0 : decode cL_alterIn 0 = .ok (.aload_n 3, 1) := by decide +kernel
theorem dL_alterIn_1 : decode cL_alterIn 1 = .ok (.iconst 0, 1) := by decide +kernel
theorem dL_alterIn_2 : decode cL_alterIn 2 = .ok (.aload_n 0, 1) := by decide +kernel
theorem dL_alterIn_3 : decode cL_alterIn 3 = .ok (.iload_n 1, 1) := by decide +kernel
theorem dL_alterIn_4 : decode cL_alterIn 4 = .ok (.iload_n 2, 1) := by decide +kernel
theorem dL_alterIn_5 : decode cL_alterIn 5 = .ok (.invokevirtual 61, 3) := by decide +kernel
theorem dL_alterIn_8 : decode cL_alterIn 8 = .ok (.i2l, 1) := by decide +kernel
theorem dL_alterIn_9 : decode cL_alterIn 9 = .ok (.lastore, 1) := by decide +kernel
theorem dL_alterIn_10 : decode cL_alterIn 10 = .ok (.goto 7, 3) := by decide +kernel
theorem dL_alterIn_13 : decode cL_alterIn 13 = .ok (.astore 4, 2) := by decide +kernel
theorem dL_alterIn_15 : decode cL_alterIn 15 = .ok (.iconst 1, 1) := by decide +kernel
theorem dL_alterIn_16 : decode cL_alterIn 16 = .ok (.ireturn, 1) := by decide +kernel
theorem dL_alterIn_17 : decode cL_alterIn 17 = .ok (.iconst 0, 1) := by decide +kernel
theorem dL_alterIn_18 : decode cL_alterIn 18 = .ok (.ireturn, 1) := by decide +kernel
theorem dL_writtenKey_0 : decode cL_writtenKey 0 = .ok (.aload_n 3, 1) := by decide +kernel
theorem dL_writtenKey_1 : decode cL_writtenKey 1 = .ok (.iconst 0, 1) := by decide +kernel
theorem dL_writtenKey_2 : decode cL_writtenKey 2 = .ok (.aload_n 0, 1) := by decide +kernel
theorem dL_writtenKey_3 : decode cL_writtenKey 3 = .ok (.iload_n 1, 1) := by decide +kernel
theorem dL_writtenKey_4 : decode cL_writtenKey 4 = .ok (.iload_n 2, 1) := by decide +kernel
theorem dL_writtenKey_5 : decode cL_writtenKey 5 = .ok (.invokevirtual 64, 3) := by decide +kernel
theorem dL_writtenKey_8 : decode cL_writtenKey 8 = .ok (.i2l, 1) := by decide +kernel
theorem dL_writtenKey_9 : decode cL_writtenKey 9 = .ok (.lastore, 1) := by decide +kernel
theorem dL_writtenKey_10 : decode cL_writtenKey 10 = .ok (.goto 7, 3) := by decide +kernel
theorem dL_writtenKey_13 : decode cL_writtenKey 13 = .ok (.astore 4, 2) := by decide +kernel
theorem dL_writtenKey_15 : decode cL_writtenKey 15 = .ok (.iconst 1, 1) := by decide +kernel
theorem dL_writtenKey_16 : decode cL_writtenKey 16 = .ok (.ireturn, 1) := by decide +kernel
theorem dL_writtenKey_17 : decode cL_writtenKey 17 = .ok (.iconst 0, 1) := by decide +kernel
theorem dL_writtenKey_18 : decode cL_writtenKey 18 = .ok (.ireturn, 1) := by decide +kernel
theorem dL_beginOfBar_0 : decode cL_beginOfBar 0 = .ok (.aload_n 2, 1) := by decide +kernel
theorem dL_beginOfBar_1 : decode cL_beginOfBar 1 = .ok (.iconst 0, 1) := by decide +kernel
theorem dL_beginOfBar_2 : decode cL_beginOfBar 2 = .ok (.aload_n 0, 1) := by decide +kernel
theorem dL_beginOfBar_3 : decode cL_beginOfBar 3 = .ok (.iload_n 1, 1) := by decide +kernel
theorem dL_beginOfBar_4 : decode cL_beginOfBar 4 = .ok (.invokevirtual 67, 3) := by decide +kernel
theorem dL_beginOfBar_7 : decode cL_beginOfBar 7 = .ok (.i2l, 1) := by decide +kernel
theorem dL_beginOfBar_8 : decode cL_beginOfBar 8 = .ok (.lastore, 1) := by decide +kernel
theorem dL_beginOfBar_9 : decode cL_beginOfBar 9 = .ok (.goto 6, 3) := by decide +kernel
theorem dL_beginOfBar_12 : decode cL_beginOfBar 12 = .ok (.astore_n 3, 1) := by decide +kernel
theorem dL_beginOfBar_13 : decode cL_beginOfBar 13 = .ok (.iconst 1, 1) := by decide +kernel
theorem dL_beginOfBar_14 : decode cL_beginOfBar 14 = .ok (.ireturn, 1) := by decide +kernel
theorem dL_beginOfBar_15 : decode cL_beginOfBar 15 = .ok (.iconst 0, 1) := by decide +kernel
theorem dL_beginOfBar_16 : decode cL_beginOfBar 16 = .ok (.ireturn, 1) := by decide +kernel
theorem dL_lengthOfBar_0 : decode cL_lengthOfBar 0 = .ok (.aload_n 2, 1) := by decide +kernel
theorem dL_lengthOfBar_1 : decode cL_lengthOfBar 1 = .ok (.iconst 0, 1) := by decide +kernel
theorem dL_lengthOfBar_2 : decode cL_lengthOfBar 2 = .ok (.aload_n 0, 1) := by decide +kernel
theorem dL_lengthOfBar_3 : decode cL_lengthOfBar 3 = .ok (.iload_n 1, 1) := by decide +kernel
theorem dL_lengthOfBar_4 : decode cL_lengthOfBar 4 = .ok (.invokevirtual 70, 3) := by decide +kernel
theorem dL_lengthOfBar_7 : decode cL_lengthOfBar 7 = .ok (.i2l, 1) := by decide +kernel
theorem dL_lengthOfBar_8 : decode cL_lengthOfBar 8 = .ok (.lastore, 1) := by decide +kernel
theorem dL_lengthOfBar_9 : decode cL_lengthOfBar 9 = .ok (.goto 6, 3) := by decide +kernel
theorem dL_lengthOfBar_12 : decode cL_lengthOfBar 12 = .ok (.astore_n 3, 1) := by decide +kernel
theorem dL_lengthOfBar_13 : decode cL_lengthOfBar 13 = .ok (.iconst 1, 1) := by decide +kernel
theorem dL_lengthOfBar_14 : decode cL_lengthOfBar 14 = .ok (.ireturn, 1) := by decide +kernel
theorem dL_lengthOfBar_15 : decode cL_lengthOfBar 15 = .ok (.iconst 0, 1) := by decide +kernel
theorem dL_lengthOfBar_16 : decode cL_lengthOfBar 16 = .ok (.ireturn, 1) := by decide +kernel
theorem dL_signs_0 : decode cL_signs 0 = .ok (.aload_n 3, 1) := by decide +kernel
theorem dL_signs_1 : decode cL_signs 1 = .ok (.iconst 0, 1) := by decide +kernel
theorem dL_signs_2 : decode cL_signs 2 = .ok (.aload_n 0, 1) := by decide +kernel
theorem dL_signs_3 : decode cL_signs 3 = .ok (.iload_n 1, 1) := by decide +kernel
theorem dL_signs_4 : decode cL_signs 4 = .ok (.iload_n 2, 1) := by decide +kernel
theorem dL_signs_5 : decode cL_signs 5 = .ok (.invokevirtual 73, 3) := by decide +kernel
theorem dL_signs_8 : decode cL_signs 8 = .ok (.i2l, 1) := by decide +kernel
theorem dL_signs_9 : decode cL_signs 9 = .ok (.lastore, 1) := by decide +kernel
theorem dL_signs_10 : decode cL_signs 10 = .ok (.goto 7, 3) := by decide +kernel
theorem dL_signs_13 : decode cL_signs 13 = .ok (.astore 4, 2) := by decide +kernel
theorem dL_signs_15 : decode cL_signs 15 = .ok (.iconst 1, 1) := by decide +kernel
theorem dL_signs_16 : decode cL_signs 16 = .ok (.ireturn, 1) := by decide +kernel
theorem dL_signs_17 : decode cL_signs 17 = .ok (.iconst 0, 1) := by decide +kernel
theorem dL_signs_18 : decode cL_signs 18 = .ok (.ireturn, 1) := by decide +kernel
theorem dL_eventOf_0 : decode cL_eventOf 0 = .ok (.aload 4, 2) := by decide +kernel
theorem dL_eventOf_2 : decode cL_eventOf 2 = .ok (.iconst 0, 1) := by decide +kernel
theorem dL_eventOf_3 : decode cL_eventOf 3 = .ok (.aload_n 0, 1) := by decide +kernel
theorem dL_eventOf_4 : decode cL_eventOf 4 = .ok (.iload_n 1, 1) := by decide +kernel
theorem dL_eventOf_5 : decode cL_eventOf 5 = .ok (.iload_n 2, 1) := by decide +kernel
theorem dL_eventOf_6 : decode cL_eventOf 6 = .ok (.iload_n 3, 1) := by decide +kernel
theorem dL_eventOf_7 : decode cL_eventOf 7 = .ok (.invokevirtual 76, 3) := by decide +kernel
theorem dL_eventOf_10 : decode cL_eventOf 10 = .ok (.i2l, 1) := by decide +kernel
theorem dL_eventOf_11 : decode cL_eventOf 11 = .ok (.lastore, 1) := by decide +kernel
theorem dL_eventOf_12 : decode cL_eventOf 12 = .ok (.goto 7, 3) := by decide +kernel
theorem dL_eventOf_15 : decode cL_eventOf 15 = .ok (.astore 5, 2) := by decide +kernel
theorem dL_eventOf_17 : decode cL_eventOf 17 = .ok (.iconst 1, 1) := by decide +kernel
theorem dL_eventOf_18 : decode cL_eventOf 18 = .ok (.ireturn, 1) := by decide +kernel
theorem dL_eventOf_19 : decode cL_eventOf 19 = .ok (.iconst 0, 1) := by decide +kernel
theorem dL_eventOf_20 : decode cL_eventOf 20 = .ok (.ireturn, 1) := by decide +kernel
theorem dL_lengthOf_0 : decode cL_lengthOf 0 = .ok (.aload 4, 2) := by decide +kernel
theorem dL_lengthOf_2 : decode cL_lengthOf 2 = .ok (.iconst 0, 1) := by decide +kernel
theorem dL_lengthOf_3 : decode cL_lengthOf 3 = .ok (.aload_n 0, 1) := by decide +kernel
theorem dL_lengthOf_4 : decode cL_lengthOf 4 = .ok (.iload_n 1, 1) := by decide +kernel
theorem dL_lengthOf_5 : decode cL_lengthOf 5 = .ok (.iload_n 2, 1) := by decide +kernel
theorem dL_lengthOf_6 : decode cL_lengthOf 6 = .ok (.iload_n 3, 1) := by decide +kernel
theorem dL_lengthOf_7 : decode cL_lengthOf 7 = .ok (.invokevirtual 79, 3) := by decide +kernel
theorem dL_lengthOf_10 : decode cL_lengthOf 10 = .ok (.i2l, 1) := by decide +kernel
theorem dL_lengthOf_11 : decode cL_lengthOf 11 = .ok (.lastore, 1) := by decide +kernel
theorem dL_lengthOf_12 : decode cL_lengthOf 12 = .ok (.goto 7, 3) := by decide +kernel
theorem dL_lengthOf_15 : decode cL_lengthOf 15 = .ok (.astore 5, 2) := by decide +kernel
theorem dL_lengthOf_17 : decode cL_lengthOf 17 = .ok (.iconst 1, 1) := by decide +kernel
theorem dL_lengthOf_18 : decode cL_lengthOf 18 = .ok (.ireturn, 1) := by decide +kernel
theorem dL_lengthOf_19 : decode cL_lengthOf 19 = .ok (.iconst 0, 1) := by decide +kernel
theorem dL_lengthOf_20 : decode cL_lengthOf 20 = .ok (.ireturn, 1) := by decide +kernel
theorem dL_isTied_0 : decode cL_isTied 0 = .ok (.aload 4, 2) := by decide +kernel
theorem dL_isTied_2 : decode cL_isTied 2 = .ok (.iconst 0, 1) := by decide +kernel
theorem dL_isTied_3 : decode cL_isTied 3 = .ok (.aload_n 0, 1) := by decide +kernel
theorem dL_isTied_4 : decode cL_isTied 4 = .ok (.iload_n 1, 1) := by decide +kernel
theorem dL_isTied_5 : decode cL_isTied 5 = .ok (.iload_n 2, 1) := by decide +kernel
theorem dL_isTied_6 : decode cL_isTied 6 = .ok (.iload_n 3, 1) := by decide +kernel
theorem dL_isTied_7 : decode cL_isTied 7 = .ok (.invokevirtual 82, 3) := by decide +kernel
theorem dL_isTied_10 : decode cL_isTied 10 = .ok (.ifCond .eq 7, 3) := by decide +kernel
theorem dL_isTied_13 : decode cL_isTied 13 = .ok (.lconst 1, 1) := by decide +kernel
theorem dL_isTied_14 : decode cL_isTied 14 = .ok (.goto 4, 3) := by decide +kernel
theorem dL_isTied_17 : decode cL_isTied 17 = .ok (.lconst 0, 1) := by decide +kernel
theorem dL_isTied_18 : decode cL_isTied 18 = .ok (.lastore, 1) := by decide +kernel
theorem dL_isTied_19 : decode cL_isTied 19 = .ok (.goto 7, 3) := by decide +kernel
theorem dL_isTied_22 : decode cL_isTied 22 = .ok (.astore 5, 2) := by decide +kernel
theorem dL_isTied_24 : decode cL_isTied 24 = .ok (.iconst 1, 1) := by decide +kernel
theorem dL_isTied_25 : decode cL_isTied 25 = .ok (.ireturn, 1) := by decide +kernel
theorem dL_isTied_26 : decode cL_isTied 26 = .ok (.iconst 0, 1) := by decide +kernel
theorem dL_isTied_27 : decode cL_isTied 27 = .ok (.ireturn, 1) := by decide +kernel
theorem dL_shown_0 : decode cL_shown 0 = .ok (.aload 4, 2) := by decide +kernel
theorem dL_shown_2 : decode cL_shown 2 = .ok (.iconst 0, 1) := by decide +kernel
theorem dL_shown_3 : decode cL_shown 3 = .ok (.aload_n 0, 1) := by decide +kernel
theorem dL_shown_4 : decode cL_shown 4 = .ok (.iload_n 1, 1) := by decide +kernel
theorem dL_shown_5 : decode cL_shown 5 = .ok (.iload_n 2, 1) := by decide +kernel
theorem dL_shown_6 : decode cL_shown 6 = .ok (.iload_n 3, 1) := by decide +kernel
theorem dL_shown_7 : decode cL_shown 7 = .ok (.invokevirtual 86, 3) := by decide +kernel
theorem dL_shown_10 : decode cL_shown 10 = .ok (.i2l, 1) := by decide +kernel
theorem dL_shown_11 : decode cL_shown 11 = .ok (.lastore, 1) := by decide +kernel
theorem dL_shown_12 : decode cL_shown 12 = .ok (.goto 7, 3) := by decide +kernel
theorem dL_shown_15 : decode cL_shown 15 = .ok (.astore 5, 2) := by decide +kernel
theorem dL_shown_17 : decode cL_shown 17 = .ok (.iconst 1, 1) := by decide +kernel
theorem dL_shown_18 : decode cL_shown 18 = .ok (.ireturn, 1) := by decide +kernel
theorem dL_shown_19 : decode cL_shown 19 = .ok (.iconst 0, 1) := by decide +kernel
theorem dL_shown_20 : decode cL_shown 20 = .ok (.ireturn, 1) := by decide +kernel
theorem dL_shownWritten_0 : decode cL_shownWritten 0 = .ok (.aload 4, 2) := by decide +kernel
theorem dL_shownWritten_2 : decode cL_shownWritten 2 = .ok (.iconst 0, 1) := by decide +kernel
theorem dL_shownWritten_3 : decode cL_shownWritten 3 = .ok (.aload_n 0, 1) := by decide +kernel
theorem dL_shownWritten_4 : decode cL_shownWritten 4 = .ok (.iload_n 1, 1) := by decide +kernel
theorem dL_shownWritten_5 : decode cL_shownWritten 5 = .ok (.iload_n 2, 1) := by decide +kernel
theorem dL_shownWritten_6 : decode cL_shownWritten 6 = .ok (.iload_n 3, 1) := by decide +kernel
theorem dL_shownWritten_7 : decode cL_shownWritten 7 = .ok (.invokevirtual 89, 3) := by decide +kernel
theorem dL_shownWritten_10 : decode cL_shownWritten 10 = .ok (.i2l, 1) := by decide +kernel
theorem dL_shownWritten_11 : decode cL_shownWritten 11 = .ok (.lastore, 1) := by decide +kernel
theorem dL_shownWritten_12 : decode cL_shownWritten 12 = .ok (.goto 7, 3) := by decide +kernel
theorem dL_shownWritten_15 : decode cL_shownWritten 15 = .ok (.astore 5, 2) := by decide +kernel
theorem dL_shownWritten_17 : decode cL_shownWritten 17 = .ok (.iconst 1, 1) := by decide +kernel
theorem dL_shownWritten_18 : decode cL_shownWritten 18 = .ok (.ireturn, 1) := by decide +kernel
theorem dL_shownWritten_19 : decode cL_shownWritten 19 = .ok (.iconst 0, 1) := by decide +kernel
theorem dL_shownWritten_20 : decode cL_shownWritten 20 = .ok (.ireturn, 1) := by decide +kernel
theorem dL_beams_0 : decode cL_beams 0 = .ok (.aload_n 3, 1) := by decide +kernel
theorem dL_beams_1 : decode cL_beams 1 = .ok (.iconst 0, 1) := by decide +kernel
theorem dL_beams_2 : decode cL_beams 2 = .ok (.aload_n 0, 1) := by decide +kernel
theorem dL_beams_3 : decode cL_beams 3 = .ok (.iload_n 1, 1) := by decide +kernel
theorem dL_beams_4 : decode cL_beams 4 = .ok (.iload_n 2, 1) := by decide +kernel
theorem dL_beams_5 : decode cL_beams 5 = .ok (.invokevirtual 92, 3) := by decide +kernel
theorem dL_beams_8 : decode cL_beams 8 = .ok (.i2l, 1) := by decide +kernel
theorem dL_beams_9 : decode cL_beams 9 = .ok (.lastore, 1) := by decide +kernel
theorem dL_beams_10 : decode cL_beams 10 = .ok (.goto 7, 3) := by decide +kernel
theorem dL_beams_13 : decode cL_beams 13 = .ok (.astore 4, 2) := by decide +kernel
theorem dL_beams_15 : decode cL_beams 15 = .ok (.iconst 1, 1) := by decide +kernel
theorem dL_beams_16 : decode cL_beams 16 = .ok (.ireturn, 1) := by decide +kernel
theorem dL_beams_17 : decode cL_beams 17 = .ok (.iconst 0, 1) := by decide +kernel
theorem dL_beams_18 : decode cL_beams 18 = .ok (.ireturn, 1) := by decide +kernel
theorem dL_beamOf_0 : decode cL_beamOf 0 = .ok (.aload 4, 2) := by decide +kernel
theorem dL_beamOf_2 : decode cL_beamOf 2 = .ok (.iconst 0, 1) := by decide +kernel
theorem dL_beamOf_3 : decode cL_beamOf 3 = .ok (.aload_n 0, 1) := by decide +kernel
theorem dL_beamOf_4 : decode cL_beamOf 4 = .ok (.iload_n 1, 1) := by decide +kernel
theorem dL_beamOf_5 : decode cL_beamOf 5 = .ok (.iload_n 2, 1) := by decide +kernel
theorem dL_beamOf_6 : decode cL_beamOf 6 = .ok (.iload_n 3, 1) := by decide +kernel
theorem dL_beamOf_7 : decode cL_beamOf 7 = .ok (.invokevirtual 95, 3) := by decide +kernel
theorem dL_beamOf_10 : decode cL_beamOf 10 = .ok (.i2l, 1) := by decide +kernel
theorem dL_beamOf_11 : decode cL_beamOf 11 = .ok (.lastore, 1) := by decide +kernel
theorem dL_beamOf_12 : decode cL_beamOf 12 = .ok (.goto 7, 3) := by decide +kernel
theorem dL_beamOf_15 : decode cL_beamOf 15 = .ok (.astore 5, 2) := by decide +kernel
theorem dL_beamOf_17 : decode cL_beamOf 17 = .ok (.iconst 1, 1) := by decide +kernel
theorem dL_beamOf_18 : decode cL_beamOf 18 = .ok (.ireturn, 1) := by decide +kernel
theorem dL_beamOf_19 : decode cL_beamOf 19 = .ok (.iconst 0, 1) := by decide +kernel
theorem dL_beamOf_20 : decode cL_beamOf 20 = .ok (.ireturn, 1) := by decide +kernel
theorem dL_missing_0 : decode cL_missing 0 = .ok (.aload_n 3, 1) := by decide +kernel
theorem dL_missing_1 : decode cL_missing 1 = .ok (.iconst 0, 1) := by decide +kernel
theorem dL_missing_2 : decode cL_missing 2 = .ok (.aload_n 0, 1) := by decide +kernel
theorem dL_missing_3 : decode cL_missing 3 = .ok (.iload_n 1, 1) := by decide +kernel
theorem dL_missing_4 : decode cL_missing 4 = .ok (.iload_n 2, 1) := by decide +kernel
theorem dL_missing_5 : decode cL_missing 5 = .ok (.invokevirtual 98, 3) := by decide +kernel
theorem dL_missing_8 : decode cL_missing 8 = .ok (.i2l, 1) := by decide +kernel
theorem dL_missing_9 : decode cL_missing 9 = .ok (.lastore, 1) := by decide +kernel
theorem dL_missing_10 : decode cL_missing 10 = .ok (.goto 7, 3) := by decide +kernel
theorem dL_missing_13 : decode cL_missing 13 = .ok (.astore 4, 2) := by decide +kernel
theorem dL_missing_15 : decode cL_missing 15 = .ok (.iconst 1, 1) := by decide +kernel
theorem dL_missing_16 : decode cL_missing 16 = .ok (.ireturn, 1) := by decide +kernel
theorem dL_missing_17 : decode cL_missing 17 = .ok (.iconst 0, 1) := by decide +kernel
theorem dL_missing_18 : decode cL_missing 18 = .ok (.ireturn, 1) := by decide +kernel
theorem dL_tickOf_0 : decode cL_tickOf 0 = .ok (.aload_n 2, 1) := by decide +kernel
theorem dL_tickOf_1 : decode cL_tickOf 1 = .ok (.iconst 0, 1) := by decide +kernel
theorem dL_tickOf_2 : decode cL_tickOf 2 = .ok (.aload_n 0, 1) := by decide +kernel
theorem dL_tickOf_3 : decode cL_tickOf 3 = .ok (.iload_n 1, 1) := by decide +kernel
theorem dL_tickOf_4 : decode cL_tickOf 4 = .ok (.invokevirtual 101, 3) := by decide +kernel
theorem dL_tickOf_7 : decode cL_tickOf 7 = .ok (.i2l, 1) := by decide +kernel
theorem dL_tickOf_8 : decode cL_tickOf 8 = .ok (.lastore, 1) := by decide +kernel
theorem dL_tickOf_9 : decode cL_tickOf 9 = .ok (.goto 6, 3) := by decide +kernel
theorem dL_tickOf_12 : decode cL_tickOf 12 = .ok (.astore_n 3, 1) := by decide +kernel
theorem dL_tickOf_13 : decode cL_tickOf 13 = .ok (.iconst 1, 1) := by decide +kernel
theorem dL_tickOf_14 : decode cL_tickOf 14 = .ok (.ireturn, 1) := by decide +kernel
theorem dL_tickOf_15 : decode cL_tickOf 15 = .ok (.iconst 0, 1) := by decide +kernel
theorem dL_tickOf_16 : decode cL_tickOf 16 = .ok (.ireturn, 1) := by decide +kernel
theorem dL_sounds_0 : decode cL_sounds 0 = .ok (.aload_n 3, 1) := by decide +kernel
theorem dL_sounds_1 : decode cL_sounds 1 = .ok (.iconst 0, 1) := by decide +kernel
theorem dL_sounds_2 : decode cL_sounds 2 = .ok (.aload_n 0, 1) := by decide +kernel
theorem dL_sounds_3 : decode cL_sounds 3 = .ok (.iload_n 1, 1) := by decide +kernel
theorem dL_sounds_4 : decode cL_sounds 4 = .ok (.iload_n 2, 1) := by decide +kernel
theorem dL_sounds_5 : decode cL_sounds 5 = .ok (.invokevirtual 104, 3) := by decide +kernel
theorem dL_sounds_8 : decode cL_sounds 8 = .ok (.i2l, 1) := by decide +kernel
theorem dL_sounds_9 : decode cL_sounds 9 = .ok (.lastore, 1) := by decide +kernel
theorem dL_sounds_10 : decode cL_sounds 10 = .ok (.goto 7, 3) := by decide +kernel
theorem dL_sounds_13 : decode cL_sounds 13 = .ok (.astore 4, 2) := by decide +kernel
theorem dL_sounds_15 : decode cL_sounds 15 = .ok (.iconst 1, 1) := by decide +kernel
theorem dL_sounds_16 : decode cL_sounds 16 = .ok (.ireturn, 1) := by decide +kernel
theorem dL_sounds_17 : decode cL_sounds 17 = .ok (.iconst 0, 1) := by decide +kernel
theorem dL_sounds_18 : decode cL_sounds 18 = .ok (.ireturn, 1) := by decide +kernel
theorem dL_root_0 : decode cL_root 0 = .ok (.aload_n 2, 1) := by decide +kernel
theorem dL_root_1 : decode cL_root 1 = .ok (.iconst 0, 1) := by decide +kernel
theorem dL_root_2 : decode cL_root 2 = .ok (.aload_n 0, 1) := by decide +kernel
theorem dL_root_3 : decode cL_root 3 = .ok (.iload_n 1, 1) := by decide +kernel
theorem dL_root_4 : decode cL_root 4 = .ok (.invokevirtual 107, 3) := by decide +kernel
theorem dL_root_7 : decode cL_root 7 = .ok (.i2l, 1) := by decide +kernel
theorem dL_root_8 : decode cL_root 8 = .ok (.lastore, 1) := by decide +kernel
theorem dL_root_9 : decode cL_root 9 = .ok (.goto 6, 3) := by decide +kernel
theorem dL_root_12 : decode cL_root 12 = .ok (.astore_n 3, 1) := by decide +kernel
theorem dL_root_13 : decode cL_root 13 = .ok (.iconst 1, 1) := by decide +kernel
theorem dL_root_14 : decode cL_root 14 = .ok (.ireturn, 1) := by decide +kernel
theorem dL_root_15 : decode cL_root 15 = .ok (.iconst 0, 1) := by decide +kernel
theorem dL_root_16 : decode cL_root 16 = .ok (.ireturn, 1) := by decide +kernel
theorem dL_kind_0 : decode cL_kind 0 = .ok (.aload_n 2, 1) := by decide +kernel
theorem dL_kind_1 : decode cL_kind 1 = .ok (.iconst 0, 1) := by decide +kernel
theorem dL_kind_2 : decode cL_kind 2 = .ok (.aload_n 0, 1) := by decide +kernel
theorem dL_kind_3 : decode cL_kind 3 = .ok (.iload_n 1, 1) := by decide +kernel
theorem dL_kind_4 : decode cL_kind 4 = .ok (.invokevirtual 110, 3) := by decide +kernel
theorem dL_kind_7 : decode cL_kind 7 = .ok (.i2l, 1) := by decide +kernel
theorem dL_kind_8 : decode cL_kind 8 = .ok (.lastore, 1) := by decide +kernel
theorem dL_kind_9 : decode cL_kind 9 = .ok (.goto 6, 3) := by decide +kernel
theorem dL_kind_12 : decode cL_kind 12 = .ok (.astore_n 3, 1) := by decide +kernel
theorem dL_kind_13 : decode cL_kind 13 = .ok (.iconst 1, 1) := by decide +kernel
theorem dL_kind_14 : decode cL_kind 14 = .ok (.ireturn, 1) := by decide +kernel
theorem dL_kind_15 : decode cL_kind 15 = .ok (.iconst 0, 1) := by decide +kernel
theorem dL_kind_16 : decode cL_kind 16 = .ok (.ireturn, 1) := by decide +kernel
theorem dL_inversion_0 : decode cL_inversion 0 = .ok (.aload_n 2, 1) := by decide +kernel
theorem dL_inversion_1 : decode cL_inversion 1 = .ok (.iconst 0, 1) := by decide +kernel
theorem dL_inversion_2 : decode cL_inversion 2 = .ok (.aload_n 0, 1) := by decide +kernel
theorem dL_inversion_3 : decode cL_inversion 3 = .ok (.iload_n 1, 1) := by decide +kernel
theorem dL_inversion_4 : decode cL_inversion 4 = .ok (.invokevirtual 113, 3) := by decide +kernel
theorem dL_inversion_7 : decode cL_inversion 7 = .ok (.i2l, 1) := by decide +kernel
theorem dL_inversion_8 : decode cL_inversion 8 = .ok (.lastore, 1) := by decide +kernel
theorem dL_inversion_9 : decode cL_inversion 9 = .ok (.goto 6, 3) := by decide +kernel
theorem dL_inversion_12 : decode cL_inversion 12 = .ok (.astore_n 3, 1) := by decide +kernel
theorem dL_inversion_13 : decode cL_inversion 13 = .ok (.iconst 1, 1) := by decide +kernel
theorem dL_inversion_14 : decode cL_inversion 14 = .ok (.ireturn, 1) := by decide +kernel
theorem dL_inversion_15 : decode cL_inversion 15 = .ok (.iconst 0, 1) := by decide +kernel
theorem dL_inversion_16 : decode cL_inversion 16 = .ok (.ireturn, 1) := by decide +kernel
theorem dL_kindOfFault_0 : decode cL_kindOfFault 0 = .ok (.aload_n 2, 1) := by decide +kernel
theorem dL_kindOfFault_1 : decode cL_kindOfFault 1 = .ok (.iconst 0, 1) := by decide +kernel
theorem dL_kindOfFault_2 : decode cL_kindOfFault 2 = .ok (.aload_n 0, 1) := by decide +kernel
theorem dL_kindOfFault_3 : decode cL_kindOfFault 3 = .ok (.iload_n 1, 1) := by decide +kernel
theorem dL_kindOfFault_4 : decode cL_kindOfFault 4 = .ok (.invokevirtual 116, 3) := by decide +kernel
theorem dL_kindOfFault_7 : decode cL_kindOfFault 7 = .ok (.i2l, 1) := by decide +kernel
theorem dL_kindOfFault_8 : decode cL_kindOfFault 8 = .ok (.lastore, 1) := by decide +kernel
theorem dL_kindOfFault_9 : decode cL_kindOfFault 9 = .ok (.goto 6, 3) := by decide +kernel
theorem dL_kindOfFault_12 : decode cL_kindOfFault 12 = .ok (.astore_n 3, 1) := by decide +kernel
theorem dL_kindOfFault_13 : decode cL_kindOfFault 13 = .ok (.iconst 1, 1) := by decide +kernel
theorem dL_kindOfFault_14 : decode cL_kindOfFault 14 = .ok (.ireturn, 1) := by decide +kernel
theorem dL_kindOfFault_15 : decode cL_kindOfFault 15 = .ok (.iconst 0, 1) := by decide +kernel
theorem dL_kindOfFault_16 : decode cL_kindOfFault 16 = .ok (.ireturn, 1) := by decide +kernel
theorem dL_tickOfFault_0 : decode cL_tickOfFault 0 = .ok (.aload_n 2, 1) := by decide +kernel
theorem dL_tickOfFault_1 : decode cL_tickOfFault 1 = .ok (.iconst 0, 1) := by decide +kernel
theorem dL_tickOfFault_2 : decode cL_tickOfFault 2 = .ok (.aload_n 0, 1) := by decide +kernel
theorem dL_tickOfFault_3 : decode cL_tickOfFault 3 = .ok (.iload_n 1, 1) := by decide +kernel
theorem dL_tickOfFault_4 : decode cL_tickOfFault 4 = .ok (.invokevirtual 119, 3) := by decide +kernel
theorem dL_tickOfFault_7 : decode cL_tickOfFault 7 = .ok (.i2l, 1) := by decide +kernel
theorem dL_tickOfFault_8 : decode cL_tickOfFault 8 = .ok (.lastore, 1) := by decide +kernel
theorem dL_tickOfFault_9 : decode cL_tickOfFault 9 = .ok (.goto 6, 3) := by decide +kernel
theorem dL_tickOfFault_12 : decode cL_tickOfFault 12 = .ok (.astore_n 3, 1) := by decide +kernel
theorem dL_tickOfFault_13 : decode cL_tickOfFault 13 = .ok (.iconst 1, 1) := by decide +kernel
theorem dL_tickOfFault_14 : decode cL_tickOfFault 14 = .ok (.ireturn, 1) := by decide +kernel
theorem dL_tickOfFault_15 : decode cL_tickOfFault 15 = .ok (.iconst 0, 1) := by decide +kernel
theorem dL_tickOfFault_16 : decode cL_tickOfFault 16 = .ok (.ireturn, 1) := by decide +kernel
theorem dL_partsOfFault_0 : decode cL_partsOfFault 0 = .ok (.aload_n 2, 1) := by decide +kernel
theorem dL_partsOfFault_1 : decode cL_partsOfFault 1 = .ok (.iconst 0, 1) := by decide +kernel
theorem dL_partsOfFault_2 : decode cL_partsOfFault 2 = .ok (.aload_n 0, 1) := by decide +kernel
theorem dL_partsOfFault_3 : decode cL_partsOfFault 3 = .ok (.iload_n 1, 1) := by decide +kernel
theorem dL_partsOfFault_4 : decode cL_partsOfFault 4 = .ok (.invokevirtual 122, 3) := by decide +kernel
theorem dL_partsOfFault_7 : decode cL_partsOfFault 7 = .ok (.i2l, 1) := by decide +kernel
theorem dL_partsOfFault_8 : decode cL_partsOfFault 8 = .ok (.lastore, 1) := by decide +kernel
theorem dL_partsOfFault_9 : decode cL_partsOfFault 9 = .ok (.goto 6, 3) := by decide +kernel
theorem dL_partsOfFault_12 : decode cL_partsOfFault 12 = .ok (.astore_n 3, 1) := by decide +kernel
theorem dL_partsOfFault_13 : decode cL_partsOfFault 13 = .ok (.iconst 1, 1) := by decide +kernel
theorem dL_partsOfFault_14 : decode cL_partsOfFault 14 = .ok (.ireturn, 1) := by decide +kernel
theorem dL_partsOfFault_15 : decode cL_partsOfFault 15 = .ok (.iconst 0, 1) := by decide +kernel
theorem dL_partsOfFault_16 : decode cL_partsOfFault 16 = .ok (.ireturn, 1) := by decide +kernel
theorem dL_faultsIfUp_0 : decode cL_faultsIfUp 0 = .ok (.aload_n 3, 1) := by decide +kernel
theorem dL_faultsIfUp_1 : decode cL_faultsIfUp 1 = .ok (.iconst 0, 1) := by decide +kernel
theorem dL_faultsIfUp_2 : decode cL_faultsIfUp 2 = .ok (.aload_n 0, 1) := by decide +kernel
theorem dL_faultsIfUp_3 : decode cL_faultsIfUp 3 = .ok (.iload_n 1, 1) := by decide +kernel
theorem dL_faultsIfUp_4 : decode cL_faultsIfUp 4 = .ok (.iload_n 2, 1) := by decide +kernel
theorem dL_faultsIfUp_5 : decode cL_faultsIfUp 5 = .ok (.invokevirtual 125, 3) := by decide +kernel
theorem dL_faultsIfUp_8 : decode cL_faultsIfUp 8 = .ok (.i2l, 1) := by decide +kernel
theorem dL_faultsIfUp_9 : decode cL_faultsIfUp 9 = .ok (.lastore, 1) := by decide +kernel
theorem dL_faultsIfUp_10 : decode cL_faultsIfUp 10 = .ok (.goto 11, 3) := by decide +kernel
theorem dL_faultsIfUp_13 : decode cL_faultsIfUp 13 = .ok (.astore 4, 2) := by decide +kernel
theorem dL_faultsIfUp_15 : decode cL_faultsIfUp 15 = .ok (.iconst 1, 1) := by decide +kernel
theorem dL_faultsIfUp_16 : decode cL_faultsIfUp 16 = .ok (.ireturn, 1) := by decide +kernel
theorem dL_faultsIfUp_17 : decode cL_faultsIfUp 17 = .ok (.astore 4, 2) := by decide +kernel
theorem dL_faultsIfUp_19 : decode cL_faultsIfUp 19 = .ok (.iconst 2, 1) := by decide +kernel
theorem dL_faultsIfUp_20 : decode cL_faultsIfUp 20 = .ok (.ireturn, 1) := by decide +kernel
theorem dL_faultsIfUp_21 : decode cL_faultsIfUp 21 = .ok (.iconst 0, 1) := by decide +kernel
theorem dL_faultsIfUp_22 : decode cL_faultsIfUp 22 = .ok (.ireturn, 1) := by decide +kernel
theorem dL_widthOf_0 : decode cL_widthOf 0 = .ok (.aload_n 2, 1) := by decide +kernel
theorem dL_widthOf_1 : decode cL_widthOf 1 = .ok (.iconst 0, 1) := by decide +kernel
theorem dL_widthOf_2 : decode cL_widthOf 2 = .ok (.aload_n 0, 1) := by decide +kernel
theorem dL_widthOf_3 : decode cL_widthOf 3 = .ok (.iload_n 1, 1) := by decide +kernel
theorem dL_widthOf_4 : decode cL_widthOf 4 = .ok (.invokevirtual 128, 3) := by decide +kernel
theorem dL_widthOf_7 : decode cL_widthOf 7 = .ok (.i2l, 1) := by decide +kernel
theorem dL_widthOf_8 : decode cL_widthOf 8 = .ok (.lastore, 1) := by decide +kernel
theorem dL_widthOf_9 : decode cL_widthOf 9 = .ok (.goto 6, 3) := by decide +kernel
theorem dL_widthOf_12 : decode cL_widthOf 12 = .ok (.astore_n 3, 1) := by decide +kernel
theorem dL_widthOf_13 : decode cL_widthOf 13 = .ok (.iconst 1, 1) := by decide +kernel
theorem dL_widthOf_14 : decode cL_widthOf 14 = .ok (.ireturn, 1) := by decide +kernel
theorem dL_widthOf_15 : decode cL_widthOf 15 = .ok (.iconst 0, 1) := by decide +kernel
theorem dL_widthOf_16 : decode cL_widthOf 16 = .ok (.ireturn, 1) := by decide +kernel
theorem dL_lines_0 : decode cL_lines 0 = .ok (.aload_n 2, 1) := by decide +kernel
theorem dL_lines_1 : decode cL_lines 1 = .ok (.iconst 0, 1) := by decide +kernel
theorem dL_lines_2 : decode cL_lines 2 = .ok (.aload_n 0, 1) := by decide +kernel
theorem dL_lines_3 : decode cL_lines 3 = .ok (.iload_n 1, 1) := by decide +kernel
theorem dL_lines_4 : decode cL_lines 4 = .ok (.invokevirtual 131, 3) := by decide +kernel
theorem dL_lines_7 : decode cL_lines 7 = .ok (.i2l, 1) := by decide +kernel
theorem dL_lines_8 : decode cL_lines 8 = .ok (.lastore, 1) := by decide +kernel
theorem dL_lines_9 : decode cL_lines 9 = .ok (.goto 6, 3) := by decide +kernel
theorem dL_lines_12 : decode cL_lines 12 = .ok (.astore_n 3, 1) := by decide +kernel
theorem dL_lines_13 : decode cL_lines 13 = .ok (.iconst 1, 1) := by decide +kernel
theorem dL_lines_14 : decode cL_lines 14 = .ok (.ireturn, 1) := by decide +kernel
theorem dL_lines_15 : decode cL_lines 15 = .ok (.iconst 0, 1) := by decide +kernel
theorem dL_lines_16 : decode cL_lines 16 = .ok (.ireturn, 1) := by decide +kernel
theorem dL_lineOf_0 : decode cL_lineOf 0 = .ok (.aload_n 3, 1) := by decide +kernel
theorem dL_lineOf_1 : decode cL_lineOf 1 = .ok (.iconst 0, 1) := by decide +kernel
theorem dL_lineOf_2 : decode cL_lineOf 2 = .ok (.aload_n 0, 1) := by decide +kernel
theorem dL_lineOf_3 : decode cL_lineOf 3 = .ok (.iload_n 1, 1) := by decide +kernel
theorem dL_lineOf_4 : decode cL_lineOf 4 = .ok (.iload_n 2, 1) := by decide +kernel
theorem dL_lineOf_5 : decode cL_lineOf 5 = .ok (.invokevirtual 134, 3) := by decide +kernel
theorem dL_lineOf_8 : decode cL_lineOf 8 = .ok (.i2l, 1) := by decide +kernel
theorem dL_lineOf_9 : decode cL_lineOf 9 = .ok (.lastore, 1) := by decide +kernel
theorem dL_lineOf_10 : decode cL_lineOf 10 = .ok (.goto 11, 3) := by decide +kernel
theorem dL_lineOf_13 : decode cL_lineOf 13 = .ok (.astore 4, 2) := by decide +kernel
theorem dL_lineOf_15 : decode cL_lineOf 15 = .ok (.iconst 1, 1) := by decide +kernel
theorem dL_lineOf_16 : decode cL_lineOf 16 = .ok (.ireturn, 1) := by decide +kernel
theorem dL_lineOf_17 : decode cL_lineOf 17 = .ok (.astore 4, 2) := by decide +kernel
theorem dL_lineOf_19 : decode cL_lineOf 19 = .ok (.iconst 2, 1) := by decide +kernel
theorem dL_lineOf_20 : decode cL_lineOf 20 = .ok (.ireturn, 1) := by decide +kernel
theorem dL_lineOf_21 : decode cL_lineOf 21 = .ok (.iconst 0, 1) := by decide +kernel
theorem dL_lineOf_22 : decode cL_lineOf 22 = .ok (.ireturn, 1) := by decide +kernel
theorem dL_costOf_0 : decode cL_costOf 0 = .ok (.aload_n 2, 1) := by decide +kernel
theorem dL_costOf_1 : decode cL_costOf 1 = .ok (.iconst 0, 1) := by decide +kernel
theorem dL_costOf_2 : decode cL_costOf 2 = .ok (.aload_n 0, 1) := by decide +kernel
theorem dL_costOf_3 : decode cL_costOf 3 = .ok (.iload_n 1, 1) := by decide +kernel
theorem dL_costOf_4 : decode cL_costOf 4 = .ok (.invokevirtual 137, 3) := by decide +kernel
theorem dL_costOf_7 : decode cL_costOf 7 = .ok (.i2l, 1) := by decide +kernel
theorem dL_costOf_8 : decode cL_costOf 8 = .ok (.lastore, 1) := by decide +kernel
theorem dL_costOf_9 : decode cL_costOf 9 = .ok (.goto 6, 3) := by decide +kernel
theorem dL_costOf_12 : decode cL_costOf 12 = .ok (.astore_n 3, 1) := by decide +kernel
theorem dL_costOf_13 : decode cL_costOf 13 = .ok (.iconst 1, 1) := by decide +kernel
theorem dL_costOf_14 : decode cL_costOf 14 = .ok (.ireturn, 1) := by decide +kernel
theorem dL_costOf_15 : decode cL_costOf 15 = .ok (.iconst 0, 1) := by decide +kernel
theorem dL_costOf_16 : decode cL_costOf 16 = .ok (.ireturn, 1) := by decide +kernel
