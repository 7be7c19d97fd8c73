theorem dX10_isOut_34 : decode cX10_isOut 34 = .ok (.iconst 1, 1) := by decide +kernel
theorem dX10_isOut_35 : decode cX10_isOut 35 = .ok (.goto 4, 3) := by decide +kernel
theorem dX10_isOut_38 : decode cX10_isOut 38 = .ok (.iconst 0, 1) := by decide +kernel
theorem dX10_isOut_39 : decode cX10_isOut 39 = .ok (.ireturn, 1) := by decide +kernel
theorem dX10_writtenPlace_0 : decode cX10_writtenPlace 0 = .ok (.aload_n 0, 1) := by decide +kernel
theorem dX10_writtenPlace_1 : decode cX10_writtenPlace 1 = .ok (.getfield 18, 3) := by decide +kernel
theorem dX10_writtenPlace_4 : decode cX10_writtenPlace 4 = .ok (.iload_n 1, 1) := by decide +kernel
theorem dX10_writtenPlace_5 : decode cX10_writtenPlace 5 = .ok (.iaload, 1) := by decide +kernel
theorem dX10_writtenPlace_6 : decode cX10_writtenPlace 6 = .ok (.iconst 4, 1) := by decide +kernel
theorem dX10_writtenPlace_7 : decode cX10_writtenPlace 7 = .ok (.aload_n 0, 1) := by decide +kernel
theorem dX10_writtenPlace_8 : decode cX10_writtenPlace 8 = .ok (.getfield 55, 3) := by decide +kernel
theorem dX10_writtenPlace_11 : decode cX10_writtenPlace 11 = .ok (.imul, 1) := by decide +kernel
theorem dX10_writtenPlace_12 : decode cX10_writtenPlace 12 = .ok (.iadd, 1) := by decide +kernel
theorem dX10_writtenPlace_13 : decode cX10_writtenPlace 13 = .ok (.bipush 7, 2) := by decide +kernel
theorem dX10_writtenPlace_15 : decode cX10_writtenPlace 15 = .ok (.aload_n 0, 1) := by decide +kernel
theorem dX10_writtenPlace_16 : decode cX10_writtenPlace 16 = .ok (.getfield 58, 3) := by decide +kernel
theorem dX10_writtenPlace_19 : decode cX10_writtenPlace 19 = .ok (.imul, 1) := by decide +kernel
theorem dX10_writtenPlace_20 : decode cX10_writtenPlace 20 = .ok (.iadd, 1) := by decide +kernel
theorem dX10_writtenPlace_21 : decode cX10_writtenPlace 21 = .ok (.ireturn, 1) := by decide +kernel
theorem dX10_writtenAlter_0 : decode cX10_writtenAlter 0 = .ok (.aload_n 0, 1) := by decide +kernel
theorem dX10_writtenAlter_1 : decode cX10_writtenAlter 1 = .ok (.iload_n 1, 1) := by decide +kernel
theorem dX10_writtenAlter_2 : decode cX10_writtenAlter 2 = .ok (.invokevirtual 61, 3) := by decide +kernel
theorem dX10_writtenAlter_5 : decode cX10_writtenAlter 5 = .ok (.bipush 7, 2) := by decide +kernel
theorem dX10_writtenAlter_7 : decode cX10_writtenAlter 7 = .ok (.aload_n 0, 1) := by decide +kernel
theorem dX10_writtenAlter_8 : decode cX10_writtenAlter 8 = .ok (.getfield 55, 3) := by decide +kernel
theorem dX10_writtenAlter_11 : decode cX10_writtenAlter 11 = .ok (.imul, 1) := by decide +kernel
theorem dX10_writtenAlter_12 : decode cX10_writtenAlter 12 = .ok (.iadd, 1) := by decide +kernel
theorem dX10_writtenAlter_13 : decode cX10_writtenAlter 13 = .ok (.bipush 12, 2) := by decide +kernel
theorem dX10_writtenAlter_15 : decode cX10_writtenAlter 15 = .ok (.aload_n 0, 1) := by decide +kernel
theorem dX10_writtenAlter_16 : decode cX10_writtenAlter 16 = .ok (.getfield 58, 3) := by decide +kernel
theorem dX10_writtenAlter_19 : decode cX10_writtenAlter 19 = .ok (.imul, 1) := by decide +kernel
theorem dX10_writtenAlter_20 : decode cX10_writtenAlter 20 = .ok (.iadd, 1) := by decide +kernel
theorem dX10_writtenAlter_21 : decode cX10_writtenAlter 21 = .ok (.aload_n 0, 1) := by decide +kernel
theorem dX10_writtenAlter_22 : decode cX10_writtenAlter 22 = .ok (.iload_n 1, 1) := by decide +kernel
theorem dX10_writtenAlter_23 : decode cX10_writtenAlter 23 = .ok (.invokevirtual 64, 3) := by decide +kernel
theorem dX10_writtenAlter_26 : decode cX10_writtenAlter 26 = .ok (.invokestatic 48, 3) := by decide +kernel
theorem dX10_writtenAlter_29 : decode cX10_writtenAlter 29 = .ok (.isub, 1) := by decide +kernel
theorem dX10_writtenAlter_30 : decode cX10_writtenAlter 30 = .ok (.ireturn, 1) := by decide +kernel
theorem dX10_isWritten_0 : decode cX10_isWritten 0 = .ok (.aload_n 0, 1) := by decide +kernel
theorem dX10_isWritten_1 : decode cX10_isWritten 1 = .ok (.iload_n 1, 1) := by decide +kernel
theorem dX10_isWritten_2 : decode cX10_isWritten 2 = .ok (.invokevirtual 51, 3) := by decide +kernel
theorem dX10_isWritten_5 : decode cX10_isWritten 5 = .ok (.ifCond .eq 35, 3) := by decide +kernel
theorem dX10_isWritten_8 : decode cX10_isWritten 8 = .ok (.aload_n 0, 1) := by decide +kernel
theorem dX10_isWritten_9 : decode cX10_isWritten 9 = .ok (.iload_n 1, 1) := by decide +kernel
theorem dX10_isWritten_10 : decode cX10_isWritten 10 = .ok (.invokevirtual 64, 3) := by decide +kernel
theorem dX10_isWritten_13 : decode cX10_isWritten 13 = .ok (.iconst 1, 1) := by decide +kernel
theorem dX10_isWritten_14 : decode cX10_isWritten 14 = .ok (.bipush 62, 2) := by decide +kernel
theorem dX10_isWritten_16 : decode cX10_isWritten 16 = .ok (.invokestatic 67, 3) := by decide +kernel
theorem dX10_isWritten_19 : decode cX10_isWritten 19 = .ok (.ifCond .eq 21, 3) := by decide +kernel
theorem dX10_isWritten_22 : decode cX10_isWritten 22 = .ok (.aload_n 0, 1) := by decide +kernel
theorem dX10_isWritten_23 : decode cX10_isWritten 23 = .ok (.iload_n 1, 1) := by decide +kernel
theorem dX10_isWritten_24 : decode cX10_isWritten 24 = .ok (.invokevirtual 71, 3) := by decide +kernel
theorem dX10_isWritten_27 : decode cX10_isWritten 27 = .ok (.bipush (-2), 2) := by decide +kernel
theorem dX10_isWritten_29 : decode cX10_isWritten 29 = .ok (.iconst 2, 1) := by decide +kernel
theorem dX10_isWritten_30 : decode cX10_isWritten 30 = .ok (.invokestatic 67, 3) := by decide +kernel
theorem dX10_isWritten_33 : decode cX10_isWritten 33 = .ok (.ifCond .eq 7, 3) := by decide +kernel
theorem dX10_isWritten_36 : decode cX10_isWritten 36 = .ok (.iconst 1, 1) := by decide +kernel
theorem dX10_isWritten_37 : decode cX10_isWritten 37 = .ok (.goto 4, 3) := by decide +kernel
theorem dX10_isWritten_40 : decode cX10_isWritten 40 = .ok (.iconst 0, 1) := by decide +kernel
theorem dX10_isWritten_41 : decode cX10_isWritten 41 = .ok (.ireturn, 1) := by decide +kernel
theorem dX11_base_0 : decode cX11_base 0 = .ok (.bipush 12, 2) := by decide +kernel
theorem dX11_base_2 : decode cX11_base 2 = .ok (.iload_n 0, 1) := by decide +kernel
theorem dX11_base_3 : decode cX11_base 3 = .ok (.bipush 7, 2) := by decide +kernel
theorem dX11_base_5 : decode cX11_base 5 = .ok (.invokestatic 1, 3) := by decide +kernel
theorem dX11_base_8 : decode cX11_base 8 = .ok (.imul, 1) := by decide +kernel
theorem dX11_base_9 : decode cX11_base 9 = .ok (.getstatic 7, 3) := by decide +kernel
theorem dX11_base_12 : decode cX11_base 12 = .ok (.iload_n 0, 1) := by decide +kernel
theorem dX11_base_13 : decode cX11_base 13 = .ok (.bipush 7, 2) := by decide +kernel
theorem dX11_base_15 : decode cX11_base 15 = .ok (.invokestatic 13, 3) := by decide +kernel
theorem dX11_base_18 : decode cX11_base 18 = .ok (.iaload, 1) := by decide +kernel
theorem dX11_base_19 : decode cX11_base 19 = .ok (.iadd, 1) := by decide +kernel
theorem dX11_base_20 : decode cX11_base 20 = .ok (.ireturn, 1) := by decide +kernel
theorem dX11_is_0 : decode cX11_is 0 = .ok (.iload_n 0, 1) := by decide +kernel
theorem dX11_is_1 : decode cX11_is 1 = .ok (.iload_n 1, 1) := by decide +kernel
theorem dX11_is_2 : decode cX11_is 2 = .ok (.if_icmp .lt 12, 3) := by decide +kernel
theorem dX11_is_5 : decode cX11_is 5 = .ok (.iload_n 0, 1) := by decide +kernel
theorem dX11_is_6 : decode cX11_is 6 = .ok (.iload_n 2, 1) := by decide +kernel
theorem dX11_is_7 : decode cX11_is 7 = .ok (.if_icmp .gt 7, 3) := by decide +kernel
theorem dX11_is_10 : decode cX11_is 10 = .ok (.iconst 1, 1) := by decide +kernel
theorem dX11_is_11 : decode cX11_is 11 = .ok (.goto 4, 3) := by decide +kernel
theorem dX11_is_14 : decode cX11_is 14 = .ok (.iconst 0, 1) := by decide +kernel
theorem dX11_is_15 : decode cX11_is 15 = .ok (.ireturn, 1) := by decide +kernel
theorem dX11_init_0 : decode cX11_init 0 = .ok (.aload_n 0, 1) := by decide +kernel
theorem dX11_init_1 : decode cX11_init 1 = .ok (.invokespecial 16, 3) := by decide +kernel
theorem dX11_init_4 : decode cX11_init 4 = .ok (.aload_n 0, 1) := by decide +kernel
theorem dX11_init_5 : decode cX11_init 5 = .ok (.iconst 4, 1) := by decide +kernel
theorem dX11_init_6 : decode cX11_init 6 = .ok (.anewarray 22, 3) := by decide +kernel
theorem dX11_init_9 : decode cX11_init 9 = .ok (.putfield 24, 3) := by decide +kernel
theorem dX11_init_12 : decode cX11_init 12 = .ok (.aload_n 0, 1) := by decide +kernel
theorem dX11_init_13 : decode cX11_init 13 = .ok (.bipush 24, 2) := by decide +kernel
theorem dX11_init_15 : decode cX11_init 15 = .ok (.newarray .int, 2) := by decide +kernel
theorem dX11_init_17 : decode cX11_init 17 = .ok (.putfield 28, 3) := by decide +kernel
theorem dX11_init_20 : decode cX11_init 20 = .ok (.aload_n 0, 1) := by decide +kernel
theorem dX11_init_21 : decode cX11_init 21 = .ok (.bipush 24, 2) := by decide +kernel
theorem dX11_init_23 : decode cX11_init 23 = .ok (.newarray .int, 2) := by decide +kernel
theorem dX11_init_25 : decode cX11_init 25 = .ok (.putfield 31, 3) := by decide +kernel
theorem dX11_init_28 : decode cX11_init 28 = .ok (.aload_n 0, 1) := by decide +kernel
theorem dX11_init_29 : decode cX11_init 29 = .ok (.bipush 24, 2) := by decide +kernel
theorem dX11_init_31 : decode cX11_init 31 = .ok (.newarray .int, 2) := by decide +kernel
theorem dX11_init_33 : decode cX11_init 33 = .ok (.putfield 34, 3) := by decide +kernel
theorem dX11_init_36 : decode cX11_init 36 = .ok (.aload_n 0, 1) := by decide +kernel
theorem dX11_init_37 : decode cX11_init 37 = .ok (.sipush 800, 3) := by decide +kernel
theorem dX11_init_40 : decode cX11_init 40 = .ok (.newarray .int, 2) := by decide +kernel
theorem dX11_init_42 : decode cX11_init 42 = .ok (.putfield 37, 3) := by decide +kernel
theorem dX11_init_45 : decode cX11_init 45 = .ok (.aload_n 0, 1) := by decide +kernel
theorem dX11_init_46 : decode cX11_init 46 = .ok (.sipush 800, 3) := by decide +kernel
theorem dX11_init_49 : decode cX11_init 49 = .ok (.newarray .int, 2) := by decide +kernel
theorem dX11_init_51 : decode cX11_init 51 = .ok (.putfield 40, 3) := by decide +kernel
theorem dX11_init_54 : decode cX11_init 54 = .ok (.aload_n 0, 1) := by decide +kernel
theorem dX11_init_55 : decode cX11_init 55 = .ok (.sipush 800, 3) := by decide +kernel
theorem dX11_init_58 : decode cX11_init 58 = .ok (.newarray .int, 2) := by decide +kernel
theorem dX11_init_60 : decode cX11_init 60 = .ok (.putfield 43, 3) := by decide +kernel
theorem dX11_init_63 : decode cX11_init 63 = .ok (.aload_n 0, 1) := by decide +kernel
theorem dX11_init_64 : decode cX11_init 64 = .ok (.sipush 800, 3) := by decide +kernel
theorem dX11_init_67 : decode cX11_init 67 = .ok (.newarray .boolean, 2) := by decide +kernel
theorem dX11_init_69 : decode cX11_init 69 = .ok (.putfield 46, 3) := by decide +kernel
theorem dX11_init_72 : decode cX11_init 72 = .ok (.aload_n 0, 1) := by decide +kernel
theorem dX11_init_73 : decode cX11_init 73 = .ok (.sipush 800, 3) := by decide +kernel
theorem dX11_init_76 : decode cX11_init 76 = .ok (.newarray .int, 2) := by decide +kernel
theorem dX11_init_78 : decode cX11_init 78 = .ok (.putfield 50, 3) := by decide +kernel
theorem dX11_init_81 : decode cX11_init 81 = .ok (.aload_n 0, 1) := by decide +kernel
theorem dX11_init_82 : decode cX11_init 82 = .ok (.sipush 800, 3) := by decide +kernel
theorem dX11_init_85 : decode cX11_init 85 = .ok (.newarray .int, 2) := by decide +kernel
theorem dX11_init_87 : decode cX11_init 87 = .ok (.putfield 53, 3) := by decide +kernel
theorem dX11_init_90 : decode cX11_init 90 = .ok (.aload_n 0, 1) := by decide +kernel
theorem dX11_init_91 : decode cX11_init 91 = .ok (.sipush 800, 3) := by decide +kernel
theorem dX11_init_94 : decode cX11_init 94 = .ok (.newarray .int, 2) := by decide +kernel
theorem dX11_init_96 : decode cX11_init 96 = .ok (.putfield 56, 3) := by decide +kernel
theorem dX11_init_99 : decode cX11_init 99 = .ok (.aload_n 0, 1) := by decide +kernel
theorem dX11_init_100 : decode cX11_init 100 = .ok (.bipush 63, 2) := by decide +kernel
theorem dX11_init_102 : decode cX11_init 102 = .ok (.newarray .int, 2) := by decide +kernel
theorem dX11_init_104 : decode cX11_init 104 = .ok (.putfield 59, 3) := by decide +kernel
theorem dX11_init_107 : decode cX11_init 107 = .ok (.aload_n 0, 1) := by decide +kernel
theorem dX11_init_108 : decode cX11_init 108 = .ok (.iconst 4, 1) := by decide +kernel
theorem dX11_init_109 : decode cX11_init 109 = .ok (.newarray .int, 2) := by decide +kernel
theorem dX11_init_111 : decode cX11_init 111 = .ok (.putfield 62, 3) := by decide +kernel
theorem dX11_init_114 : decode cX11_init 114 = .ok (.aload_n 0, 1) := by decide +kernel
theorem dX11_init_115 : decode cX11_init 115 = .ok (.iconst 4, 1) := by decide +kernel
theorem dX11_init_116 : decode cX11_init 116 = .ok (.newarray .int, 2) := by decide +kernel
theorem dX11_init_118 : decode cX11_init 118 = .ok (.putfield 65, 3) := by decide +kernel
theorem dX11_init_121 : decode cX11_init 121 = .ok (.aload_n 0, 1) := by decide +kernel
theorem dX11_init_122 : decode cX11_init 122 = .ok (.iconst 4, 1) := by decide +kernel
theorem dX11_init_123 : decode cX11_init 123 = .ok (.newarray .int, 2) := by decide +kernel
theorem dX11_init_125 : decode cX11_init 125 = .ok (.putfield 68, 3) := by decide +kernel
theorem dX11_init_128 : decode cX11_init 128 = .ok (.aload_n 0, 1) := by decide +kernel
theorem dX11_init_129 : decode cX11_init 129 = .ok (.bipush 24, 2) := by decide +kernel
theorem dX11_init_131 : decode cX11_init 131 = .ok (.newarray .int, 2) := by decide +kernel
theorem dX11_init_133 : decode cX11_init 133 = .ok (.putfield 71, 3) := by decide +kernel
theorem dX11_init_136 : decode cX11_init 136 = .ok (.aload_n 0, 1) := by decide +kernel
theorem dX11_init_137 : decode cX11_init 137 = .ok (.bipush 25, 2) := by decide +kernel
theorem dX11_init_139 : decode cX11_init 139 = .ok (.newarray .int, 2) := by decide +kernel
theorem dX11_init_141 : decode cX11_init 141 = .ok (.putfield 74, 3) := by decide +kernel
theorem dX11_init_144 : decode cX11_init 144 = .ok (.aload_n 0, 1) := by decide +kernel
theorem dX11_init_145 : decode cX11_init 145 = .ok (.bipush 25, 2) := by decide +kernel
theorem dX11_init_147 : decode cX11_init 147 = .ok (.newarray .int, 2) := by decide +kernel
theorem dX11_init_149 : decode cX11_init 149 = .ok (.putfield 77, 3) := by decide +kernel
theorem dX11_init_152 : decode cX11_init 152 = .ok (.iconst 0, 1) := by decide +kernel
theorem dX11_init_153 : decode cX11_init 153 = .ok (.istore_n 1, 1) := by decide +kernel
theorem dX11_init_154 : decode cX11_init 154 = .ok (.iload_n 1, 1) := by decide +kernel
theorem dX11_init_155 : decode cX11_init 155 = .ok (.iconst 4, 1) := by decide +kernel
theorem dX11_init_156 : decode cX11_init 156 = .ok (.if_icmp .ge 22, 3) := by decide +kernel
theorem dX11_init_159 : decode cX11_init 159 = .ok (.aload_n 0, 1) := by decide +kernel
theorem dX11_init_160 : decode cX11_init 160 = .ok (.getfield 24, 3) := by decide +kernel
theorem dX11_init_163 : decode cX11_init 163 = .ok (.iload_n 1, 1) := by decide +kernel
theorem dX11_init_164 : decode cX11_init 164 = .ok (.new 22, 3) := by decide +kernel
theorem dX11_init_167 : decode cX11_init 167 = .ok (.dup, 1) := by decide +kernel
theorem dX11_init_168 : decode cX11_init 168 = .ok (.invokespecial 80, 3) := by decide +kernel
theorem dX11_init_171 : decode cX11_init 171 = .ok (.aastore, 1) := by decide +kernel
theorem dX11_init_172 : decode cX11_init 172 = .ok (.iinc 1 1, 3) := by decide +kernel
theorem dX11_init_175 : decode cX11_init 175 = .ok (.goto (-21), 3) := by decide +kernel
theorem dX11_init_178 : decode cX11_init 178 = .ok (.aload_n 0, 1) := by decide +kernel
theorem dX11_init_179 : decode cX11_init 179 = .ok (.getfield 28, 3) := by decide +kernel
theorem dX11_init_182 : decode cX11_init 182 = .ok (.iconst 4, 1) := by decide +kernel
theorem dX11_init_183 : decode cX11_init 183 = .ok (.invokestatic 81, 3) := by decide +kernel
theorem dX11_init_186 : decode cX11_init 186 = .ok (.aload_n 0, 1) := by decide +kernel
theorem dX11_init_187 : decode cX11_init 187 = .ok (.getfield 31, 3) := by decide +kernel
theorem dX11_init_190 : decode cX11_init 190 = .ok (.iconst 4, 1) := by decide +kernel
theorem dX11_init_191 : decode cX11_init 191 = .ok (.invokestatic 81, 3) := by decide +kernel
theorem dX11_init_194 : decode cX11_init 194 = .ok (.return_, 1) := by decide +kernel
theorem dX11_thrown_0 : decode cX11_thrown 0 = .ok (.aload_n 0, 1) := by decide +kernel
theorem dX11_thrown_1 : decode cX11_thrown 1 = .ok (.getfield 87, 3) := by decide +kernel
theorem dX11_thrown_4 : decode cX11_thrown 4 = .ok (.ireturn, 1) := by decide +kernel
theorem dX11_refuse_0 : decode cX11_refuse 0 = .ok (.aload_n 0, 1) := by decide +kernel
theorem dX11_refuse_1 : decode cX11_refuse 1 = .ok (.iload_n 1, 1) := by decide +kernel
theorem dX11_refuse_2 : decode cX11_refuse 2 = .ok (.putfield 87, 3) := by decide +kernel
theorem dX11_refuse_5 : decode cX11_refuse 5 = .ok (.iconst 0, 1) := by decide +kernel
theorem dX11_refuse_6 : decode cX11_refuse 6 = .ok (.ireturn, 1) := by decide +kernel
theorem dX11_isPart_0 : decode cX11_isPart 0 = .ok (.iload_n 0, 1) := by decide +kernel
theorem dX11_isPart_1 : decode cX11_isPart 1 = .ok (.iconst 0, 1) := by decide +kernel
theorem dX11_isPart_2 : decode cX11_isPart 2 = .ok (.iconst 3, 1) := by decide +kernel
theorem dX11_isPart_3 : decode cX11_isPart 3 = .ok (.invokestatic 91, 3) := by decide +kernel
theorem dX11_isPart_6 : decode cX11_isPart 6 = .ok (.ireturn, 1) := by decide +kernel
theorem dX11_isBar_0 : decode cX11_isBar 0 = .ok (.iload_n 0, 1) := by decide +kernel
theorem dX11_isBar_1 : decode cX11_isBar 1 = .ok (.iconst 0, 1) := by decide +kernel
theorem dX11_isBar_2 : decode cX11_isBar 2 = .ok (.bipush 23, 2) := by decide +kernel
theorem dX11_isBar_4 : decode cX11_isBar 4 = .ok (.invokestatic 91, 3) := by decide +kernel
theorem dX11_isBar_7 : decode cX11_isBar 7 = .ok (.ireturn, 1) := by decide +kernel
theorem dX11_isEvent_0 : decode cX11_isEvent 0 = .ok (.iload_n 1, 1) := by decide +kernel
theorem dX11_isEvent_1 : decode cX11_isEvent 1 = .ok (.invokestatic 95, 3) := by decide +kernel
theorem dX11_isEvent_4 : decode cX11_isEvent 4 = .ok (.ifCond .eq 26, 3) := by decide +kernel
theorem dX11_isEvent_7 : decode cX11_isEvent 7 = .ok (.iload_n 2, 1) := by decide +kernel
theorem dX11_isEvent_8 : decode cX11_isEvent 8 = .ok (.iconst 0, 1) := by decide +kernel
theorem dX11_isEvent_9 : decode cX11_isEvent 9 = .ok (.aload_n 0, 1) := by decide +kernel
theorem dX11_isEvent_10 : decode cX11_isEvent 10 = .ok (.getfield 24, 3) := by decide +kernel
theorem dX11_isEvent_13 : decode cX11_isEvent 13 = .ok (.iload_n 1, 1) := by decide +kernel
theorem dX11_isEvent_14 : decode cX11_isEvent 14 = .ok (.aaload, 1) := by decide +kernel
theorem dX11_isEvent_15 : decode cX11_isEvent 15 = .ok (.getfield 99, 3) := by decide +kernel
theorem dX11_isEvent_18 : decode cX11_isEvent 18 = .ok (.iconst 1, 1) := by decide +kernel
theorem dX11_isEvent_19 : decode cX11_isEvent 19 = .ok (.isub, 1) := by decide +kernel
theorem dX11_isEvent_20 : decode cX11_isEvent 20 = .ok (.invokestatic 91, 3) := by decide +kernel
theorem dX11_isEvent_23 : decode cX11_isEvent 23 = .ok (.ifCond .eq 7, 3) := by decide +kernel
theorem dX11_isEvent_26 : decode cX11_isEvent 26 = .ok (.iconst 1, 1) := by decide +kernel
theorem dX11_isEvent_27 : decode cX11_isEvent 27 = .ok (.goto 4, 3) := by decide +kernel
theorem dX11_isEvent_30 : decode cX11_isEvent 30 = .ok (.iconst 0, 1) := by decide +kernel
theorem dX11_isEvent_31 : decode cX11_isEvent 31 = .ok (.ireturn, 1) := by decide +kernel
theorem dX11_isPitch_0 : decode cX11_isPitch 0 = .ok (.iload_n 0, 1) := by decide +kernel
theorem dX11_isPitch_1 : decode cX11_isPitch 1 = .ok (.iconst 1, 1) := by decide +kernel
theorem dX11_isPitch_2 : decode cX11_isPitch 2 = .ok (.bipush 62, 2) := by decide +kernel
theorem dX11_isPitch_4 : decode cX11_isPitch 4 = .ok (.invokestatic 91, 3) := by decide +kernel
theorem dX11_isPitch_7 : decode cX11_isPitch 7 = .ok (.ifCond .eq 17, 3) := by decide +kernel
theorem dX11_isPitch_10 : decode cX11_isPitch 10 = .ok (.iload_n 1, 1) := by decide +kernel
theorem dX11_isPitch_11 : decode cX11_isPitch 11 = .ok (.bipush (-2), 2) := by decide +kernel
theorem dX11_isPitch_13 : decode cX11_isPitch 13 = .ok (.iconst 2, 1) := by decide +kernel
theorem dX11_isPitch_14 : decode cX11_isPitch 14 = .ok (.invokestatic 91, 3) := by decide +kernel
theorem dX11_isPitch_17 : decode cX11_isPitch 17 = .ok (.ifCond .eq 7, 3) := by decide +kernel
theorem dX11_isPitch_20 : decode cX11_isPitch 20 = .ok (.iconst 1, 1) := by decide +kernel
theorem dX11_isPitch_21 : decode cX11_isPitch 21 = .ok (.goto 4, 3) := by decide +kernel
theorem dX11_isPitch_24 : decode cX11_isPitch 24 = .ok (.iconst 0, 1) := by decide +kernel
theorem dX11_isPitch_25 : decode cX11_isPitch 25 = .ok (.ireturn, 1) := by decide +kernel
theorem dX11_isValue_0 : decode cX11_isValue 0 = .ok (.iconst 0, 1) := by decide +kernel
theorem dX11_isValue_1 : decode cX11_isValue 1 = .ok (.istore_n 1, 1) := by decide +kernel
theorem dX11_isValue_2 : decode cX11_isValue 2 = .ok (.getstatic 102, 3) := by decide +kernel
theorem dX11_isValue_5 : decode cX11_isValue 5 = .ok (.astore_n 2, 1) := by decide +kernel
theorem dX11_isValue_6 : decode cX11_isValue 6 = .ok (.aload_n 2, 1) := by decide +kernel
theorem dX11_isValue_7 : decode cX11_isValue 7 = .ok (.arraylength, 1) := by decide +kernel
theorem dX11_isValue_8 : decode cX11_isValue 8 = .ok (.istore_n 3, 1) := by decide +kernel
theorem dX11_isValue_9 : decode cX11_isValue 9 = .ok (.iconst 0, 1) := by decide +kernel
theorem dX11_isValue_10 : decode cX11_isValue 10 = .ok (.istore 4, 2) := by decide +kernel
theorem dX11_isValue_12 : decode cX11_isValue 12 = .ok (.iload 4, 2) := by decide +kernel
theorem dX11_isValue_14 : decode cX11_isValue 14 = .ok (.iload_n 3, 1) := by decide +kernel
theorem dX11_isValue_15 : decode cX11_isValue 15 = .ok (.if_icmp .ge 29, 3) := by decide +kernel
theorem dX11_isValue_18 : decode cX11_isValue 18 = .ok (.aload_n 2, 1) := by decide +kernel
theorem dX11_isValue_19 : decode cX11_isValue 19 = .ok (.iload 4, 2) := by decide +kernel
theorem dX11_isValue_21 : decode cX11_isValue 21 = .ok (.iaload, 1) := by decide +kernel
theorem dX11_isValue_22 : decode cX11_isValue 22 = .ok (.istore 5, 2) := by decide +kernel
theorem dX11_isValue_24 : decode cX11_isValue 24 = .ok (.iload_n 1, 1) := by decide +kernel
theorem dX11_isValue_25 : decode cX11_isValue 25 = .ok (.iload 5, 2) := by decide +kernel
theorem dX11_isValue_27 : decode cX11_isValue 27 = .ok (.iload_n 0, 1) := by decide +kernel
theorem dX11_isValue_28 : decode cX11_isValue 28 = .ok (.if_icmp .ne 7, 3) := by decide +kernel
theorem dX11_isValue_31 : decode cX11_isValue 31 = .ok (.iconst 1, 1) := by decide +kernel
theorem dX11_isValue_32 : decode cX11_isValue 32 = .ok (.goto 4, 3) := by decide +kernel
theorem dX11_isValue_35 : decode cX11_isValue 35 = .ok (.iconst 0, 1) := by decide +kernel
theorem dX11_isValue_36 : decode cX11_isValue 36 = .ok (.ior, 1) := by decide +kernel
theorem dX11_isValue_37 : decode cX11_isValue 37 = .ok (.istore_n 1, 1) := by decide +kernel
theorem dX11_isValue_38 : decode cX11_isValue 38 = .ok (.iinc 4 1, 3) := by decide +kernel
theorem dX11_isValue_41 : decode cX11_isValue 41 = .ok (.goto (-29), 3) := by decide +kernel
theorem dX11_isValue_44 : decode cX11_isValue 44 = .ok (.iload_n 1, 1) := by decide +kernel
theorem dX11_isValue_45 : decode cX11_isValue 45 = .ok (.ireturn, 1) := by decide +kernel
theorem dX11_length_0 : decode cX11_length 0 = .ok (.aload_n 0, 1) := by decide +kernel
theorem dX11_length_1 : decode cX11_length 1 = .ok (.getfield 28, 3) := by decide +kernel
theorem dX11_length_4 : decode cX11_length 4 = .ok (.iload_n 1, 1) := by decide +kernel
theorem dX11_length_5 : decode cX11_length 5 = .ok (.iaload, 1) := by decide +kernel
theorem dX11_length_6 : decode cX11_length 6 = .ok (.bipush 64, 2) := by decide +kernel
theorem dX11_length_8 : decode cX11_length 8 = .ok (.imul, 1) := by decide +kernel
theorem dX11_length_9 : decode cX11_length 9 = .ok (.aload_n 0, 1) := by decide +kernel
theorem dX11_length_10 : decode cX11_length 10 = .ok (.getfield 31, 3) := by decide +kernel
theorem dX11_length_13 : decode cX11_length 13 = .ok (.iload_n 1, 1) := by decide +kernel
theorem dX11_length_14 : decode cX11_length 14 = .ok (.iaload, 1) := by decide +kernel
theorem dX11_length_15 : decode cX11_length 15 = .ok (.idiv, 1) := by decide +kernel
theorem dX11_length_16 : decode cX11_length 16 = .ok (.ireturn, 1) := by decide +kernel
theorem dX11_begin_0 : decode cX11_begin 0 = .ok (.iconst 0, 1) := by decide +kernel
theorem dX11_begin_1 : decode cX11_begin 1 = .ok (.istore_n 2, 1) := by decide +kernel
theorem dX11_begin_2 : decode cX11_begin 2 = .ok (.iconst 0, 1) := by decide +kernel
theorem dX11_begin_3 : decode cX11_begin 3 = .ok (.istore_n 3, 1) := by decide +kernel
theorem dX11_begin_4 : decode cX11_begin 4 = .ok (.iload_n 3, 1) := by decide +kernel
theorem dX11_begin_5 : decode cX11_begin 5 = .ok (.iload_n 1, 1) := by decide +kernel
theorem dX11_begin_6 : decode cX11_begin 6 = .ok (.if_icmp .ge 17, 3) := by decide +kernel
theorem dX11_begin_9 : decode cX11_begin 9 = .ok (.iload_n 2, 1) := by decide +kernel
theorem dX11_begin_10 : decode cX11_begin 10 = .ok (.aload_n 0, 1) := by decide +kernel
theorem dX11_begin_11 : decode cX11_begin 11 = .ok (.iload_n 3, 1) := by decide +kernel
theorem dX11_begin_12 : decode cX11_begin 12 = .ok (.invokevirtual 105, 3) := by decide +kernel
theorem dX11_begin_15 : decode cX11_begin 15 = .ok (.iadd, 1) := by decide +kernel
theorem dX11_begin_16 : decode cX11_begin 16 = .ok (.istore_n 2, 1) := by decide +kernel
theorem dX11_begin_17 : decode cX11_begin 17 = .ok (.iinc 3 1, 3) := by decide +kernel
theorem dX11_begin_20 : decode cX11_begin 20 = .ok (.goto (-16), 3) := by decide +kernel
theorem dX11_begin_23 : decode cX11_begin 23 = .ok (.iload_n 2, 1) := by decide +kernel
theorem dX11_begin_24 : decode cX11_begin 24 = .ok (.ireturn, 1) := by decide +kernel
theorem dX11_add_0 : decode cX11_add 0 = .ok (.aload_n 0, 1) := by decide +kernel
theorem dX11_add_1 : decode cX11_add 1 = .ok (.getfield 24, 3) := by decide +kernel
theorem dX11_add_4 : decode cX11_add 4 = .ok (.iload_n 1, 1) := by decide +kernel
theorem dX11_add_5 : decode cX11_add 5 = .ok (.aaload, 1) := by decide +kernel
theorem dX11_add_6 : decode cX11_add 6 = .ok (.invokevirtual 109, 3) := by decide +kernel
theorem dX11_add_9 : decode cX11_add 9 = .ok (.iload 4, 2) := by decide +kernel
theorem dX11_add_11 : decode cX11_add 11 = .ok (.iadd, 1) := by decide +kernel
theorem dX11_add_12 : decode cX11_add 12 = .ok (.aload_n 0, 1) := by decide +kernel
theorem dX11_add_13 : decode cX11_add 13 = .ok (.bipush 24, 2) := by decide +kernel
theorem dX11_add_15 : decode cX11_add 15 = .ok (.invokevirtual 112, 3) := by decide +kernel
theorem dX11_add_18 : decode cX11_add 18 = .ok (.if_icmp .le 9, 3) := by decide +kernel
theorem dX11_add_21 : decode cX11_add 21 = .ok (.aload_n 0, 1) := by decide +kernel
theorem dX11_add_22 : decode cX11_add 22 = .ok (.iconst 3, 1) := by decide +kernel
theorem dX11_add_23 : decode cX11_add 23 = .ok (.invokevirtual 115, 3) := by decide +kernel
theorem dX11_add_26 : decode cX11_add 26 = .ok (.ireturn, 1) := by decide +kernel
theorem dX11_add_27 : decode cX11_add 27 = .ok (.aload_n 0, 1) := by decide +kernel
theorem dX11_add_28 : decode cX11_add 28 = .ok (.getfield 24, 3) := by decide +kernel
theorem dX11_add_31 : decode cX11_add 31 = .ok (.iload_n 1, 1) := by decide +kernel
theorem dX11_add_32 : decode cX11_add 32 = .ok (.aaload, 1) := by decide +kernel
theorem dX11_add_33 : decode cX11_add 33 = .ok (.iload_n 2, 1) := by decide +kernel
theorem dX11_add_34 : decode cX11_add 34 = .ok (.iload_n 3, 1) := by decide +kernel
theorem dX11_add_35 : decode cX11_add 35 = .ok (.iload 4, 2) := by decide +kernel
theorem dX11_add_37 : decode cX11_add 37 = .ok (.invokevirtual 118, 3) := by decide +kernel
theorem dX11_add_40 : decode cX11_add 40 = .ok (.aload_n 0, 1) := by decide +kernel
theorem dX11_add_41 : decode cX11_add 41 = .ok (.getfield 24, 3) := by decide +kernel
theorem dX11_add_44 : decode cX11_add 44 = .ok (.iload_n 1, 1) := by decide +kernel
theorem dX11_add_45 : decode cX11_add 45 = .ok (.aaload, 1) := by decide +kernel
theorem dX11_add_46 : decode cX11_add 46 = .ok (.getfield 99, 3) := by decide +kernel
theorem dX11_add_49 : decode cX11_add 49 = .ok (.iconst 1, 1) := by decide +kernel
theorem dX11_add_50 : decode cX11_add 50 = .ok (.isub, 1) := by decide +kernel
theorem dX11_add_51 : decode cX11_add 51 = .ok (.ireturn, 1) := by decide +kernel
theorem dX11_addNote_0 : decode cX11_addNote 0 = .ok (.aload_n 0, 1) := by decide +kernel
theorem dX11_addNote_1 : decode cX11_addNote 1 = .ok (.iconst 0, 1) := by decide +kernel
theorem dX11_addNote_2 : decode cX11_addNote 2 = .ok (.putfield 87, 3) := by decide +kernel
theorem dX11_addNote_5 : decode cX11_addNote 5 = .ok (.iload_n 1, 1) := by decide +kernel
theorem dX11_addNote_6 : decode cX11_addNote 6 = .ok (.invokestatic 95, 3) := by decide +kernel
theorem dX11_addNote_9 : decode cX11_addNote 9 = .ok (.ifCond .ne 9, 3) := by decide +kernel
theorem dX11_addNote_12 : decode cX11_addNote 12 = .ok (.aload_n 0, 1) := by decide +kernel
theorem dX11_addNote_13 : decode cX11_addNote 13 = .ok (.iconst 1, 1) := by decide +kernel
theorem dX11_addNote_14 : decode cX11_addNote 14 = .ok (.invokevirtual 115, 3) := by decide +kernel
theorem dX11_addNote_17 : decode cX11_addNote 17 = .ok (.ireturn, 1) := by decide +kernel
theorem dX11_addNote_18 : decode cX11_addNote 18 = .ok (.iload_n 2, 1) := by decide +kernel
theorem dX11_addNote_19 : decode cX11_addNote 19 = .ok (.iload_n 3, 1) := by decide +kernel
theorem dX11_addNote_20 : decode cX11_addNote 20 = .ok (.invokestatic 122, 3) := by decide +kernel
theorem dX11_addNote_23 : decode cX11_addNote 23 = .ok (.ifCond .eq 23, 3) := by decide +kernel
theorem dX11_addNote_26 : decode cX11_addNote 26 = .ok (.iload 4, 2) := by decide +kernel
theorem dX11_addNote_28 : decode cX11_addNote 28 = .ok (.invokestatic 126, 3) := by decide +kernel
theorem dX11_addNote_31 : decode cX11_addNote 31 = .ok (.ifCond .eq 15, 3) := by decide +kernel
theorem dX11_addNote_34 : decode cX11_addNote 34 = .ok (.aload_n 0, 1) := by decide +kernel
theorem dX11_addNote_35 : decode cX11_addNote 35 = .ok (.iload_n 1, 1) := by decide +kernel
theorem dX11_addNote_36 : decode cX11_addNote 36 = .ok (.iload_n 2, 1) := by decide +kernel
theorem dX11_addNote_37 : decode cX11_addNote 37 = .ok (.iload_n 3, 1) := by decide +kernel
theorem dX11_addNote_38 : decode cX11_addNote 38 = .ok (.iload 4, 2) := by decide +kernel
theorem dX11_addNote_40 : decode cX11_addNote 40 = .ok (.invokevirtual 129, 3) := by decide +kernel
theorem dX11_addNote_43 : decode cX11_addNote 43 = .ok (.goto 8, 3) := by decide +kernel
theorem dX11_addNote_46 : decode cX11_addNote 46 = .ok (.aload_n 0, 1) := by decide +kernel
theorem dX11_addNote_47 : decode cX11_addNote 47 = .ok (.iconst 2, 1) := by decide +kernel
theorem dX11_addNote_48 : decode cX11_addNote 48 = .ok (.invokevirtual 115, 3) := by decide +kernel
theorem dX11_addNote_51 : decode cX11_addNote 51 = .ok (.ireturn, 1) := by decide +kernel
theorem dX11_addRest_0 : decode cX11_addRest 0 = .ok (.aload_n 0, 1) := by decide +kernel
theorem dX11_addRest_1 : decode cX11_addRest 1 = .ok (.iconst 0, 1) := by decide +kernel
theorem dX11_addRest_2 : decode cX11_addRest 2 = .ok (.putfield 87, 3) := by decide +kernel
theorem dX11_addRest_5 : decode cX11_addRest 5 = .ok (.iload_n 1, 1) := by decide +kernel
theorem dX11_addRest_6 : decode cX11_addRest 6 = .ok (.invokestatic 95, 3) := by decide +kernel
theorem dX11_addRest_9 : decode cX11_addRest 9 = .ok (.ifCond .ne 9, 3) := by decide +kernel
theorem dX11_addRest_12 : decode cX11_addRest 12 = .ok (.aload_n 0, 1) := by decide +kernel
theorem dX11_addRest_13 : decode cX11_addRest 13 = .ok (.iconst 1, 1) := by decide +kernel
theorem dX11_addRest_14 : decode cX11_addRest 14 = .ok (.invokevirtual 115, 3) := by decide +kernel
theorem dX11_addRest_17 : decode cX11_addRest 17 = .ok (.ireturn, 1) := by decide +kernel
theorem dX11_addRest_18 : decode cX11_addRest 18 = .ok (.iload_n 2, 1) := by decide +kernel
theorem dX11_addRest_19 : decode cX11_addRest 19 = .ok (.invokestatic 126, 3) := by decide +kernel
theorem dX11_addRest_22 : decode cX11_addRest 22 = .ok (.ifCond .eq 14, 3) := by decide +kernel
theorem dX11_addRest_25 : decode cX11_addRest 25 = .ok (.aload_n 0, 1) := by decide +kernel
theorem dX11_addRest_26 : decode cX11_addRest 26 = .ok (.iload_n 1, 1) := by decide +kernel
theorem dX11_addRest_27 : decode cX11_addRest 27 = .ok (.iconst 0, 1) := by decide +kernel
theorem dX11_addRest_28 : decode cX11_addRest 28 = .ok (.iconst 0, 1) := by decide +kernel
theorem dX11_addRest_29 : decode cX11_addRest 29 = .ok (.iload_n 2, 1) := by decide +kernel
theorem dX11_addRest_30 : decode cX11_addRest 30 = .ok (.invokevirtual 129, 3) := by decide +kernel
theorem dX11_addRest_33 : decode cX11_addRest 33 = .ok (.goto 8, 3) := by decide +kernel
theorem dX11_addRest_36 : decode cX11_addRest 36 = .ok (.aload_n 0, 1) := by decide +kernel
theorem dX11_addRest_37 : decode cX11_addRest 37 = .ok (.iconst 2, 1) := by decide +kernel
theorem dX11_addRest_38 : decode cX11_addRest 38 = .ok (.invokevirtual 115, 3) := by decide +kernel
theorem dX11_addRest_41 : decode cX11_addRest 41 = .ok (.ireturn, 1) := by decide +kernel
theorem dX11_takeLast_0 : decode cX11_takeLast 0 = .ok (.aload_n 0, 1) := by decide +kernel
theorem dX11_takeLast_1 : decode cX11_takeLast 1 = .ok (.iconst 0, 1) := by decide +kernel
theorem dX11_takeLast_2 : decode cX11_takeLast 2 = .ok (.putfield 87, 3) := by decide +kernel
theorem dX11_takeLast_5 : decode cX11_takeLast 5 = .ok (.iload_n 1, 1) := by decide +kernel
theorem dX11_takeLast_6 : decode cX11_takeLast 6 = .ok (.invokestatic 95, 3) := by decide +kernel
theorem dX11_takeLast_9 : decode cX11_takeLast 9 = .ok (.ifCond .ne 9, 3) := by decide +kernel
theorem dX11_takeLast_12 : decode cX11_takeLast 12 = .ok (.aload_n 0, 1) := by decide +kernel
theorem dX11_takeLast_13 : decode cX11_takeLast 13 = .ok (.iconst 1, 1) := by decide +kernel
theorem dX11_takeLast_14 : decode cX11_takeLast 14 = .ok (.invokevirtual 115, 3) := by decide +kernel
theorem dX11_takeLast_17 : decode cX11_takeLast 17 = .ok (.ireturn, 1) := by decide +kernel
theorem dX11_takeLast_18 : decode cX11_takeLast 18 = .ok (.aload_n 0, 1) := by decide +kernel
theorem dX11_takeLast_19 : decode cX11_takeLast 19 = .ok (.getfield 24, 3) := by decide +kernel
theorem dX11_takeLast_22 : decode cX11_takeLast 22 = .ok (.iload_n 1, 1) := by decide +kernel
theorem dX11_takeLast_23 : decode cX11_takeLast 23 = .ok (.aaload, 1) := by decide +kernel
theorem dX11_takeLast_24 : decode cX11_takeLast 24 = .ok (.astore_n 2, 1) := by decide +kernel
theorem dX11_takeLast_25 : decode cX11_takeLast 25 = .ok (.aload_n 2, 1) := by decide +kernel
theorem dX11_takeLast_26 : decode cX11_takeLast 26 = .ok (.getfield 99, 3) := by decide +kernel
theorem dX11_takeLast_29 : decode cX11_takeLast 29 = .ok (.ifCond .ne 9, 3) := by decide +kernel
theorem dX11_takeLast_32 : decode cX11_takeLast 32 = .ok (.aload_n 0, 1) := by decide +kernel
theorem dX11_takeLast_33 : decode cX11_takeLast 33 = .ok (.iconst 2, 1) := by decide +kernel
theorem dX11_takeLast_34 : decode cX11_takeLast 34 = .ok (.invokevirtual 115, 3) := by decide +kernel
theorem dX11_takeLast_37 : decode cX11_takeLast 37 = .ok (.ireturn, 1) := by decide +kernel
theorem dX11_takeLast_38 : decode cX11_takeLast 38 = .ok (.aload_n 2, 1) := by decide +kernel
theorem dX11_takeLast_39 : decode cX11_takeLast 39 = .ok (.dup, 1) := by decide +kernel
theorem dX11_takeLast_40 : decode cX11_takeLast 40 = .ok (.getfield 99, 3) := by decide +kernel
theorem dX11_takeLast_43 : decode cX11_takeLast 43 = .ok (.iconst 1, 1) := by decide +kernel
theorem dX11_takeLast_44 : decode cX11_takeLast 44 = .ok (.isub, 1) := by decide +kernel
theorem dX11_takeLast_45 : decode cX11_takeLast 45 = .ok (.putfield 99, 3) := by decide +kernel
theorem dX11_takeLast_48 : decode cX11_takeLast 48 = .ok (.aload_n 2, 1) := by decide +kernel
theorem dX11_takeLast_49 : decode cX11_takeLast 49 = .ok (.getfield 132, 3) := by decide +kernel
theorem dX11_takeLast_52 : decode cX11_takeLast 52 = .ok (.aload_n 2, 1) := by decide +kernel
theorem dX11_takeLast_53 : decode cX11_takeLast 53 = .ok (.getfield 99, 3) := by decide +kernel
theorem dX11_takeLast_56 : decode cX11_takeLast 56 = .ok (.iaload, 1) := by decide +kernel
theorem dX11_takeLast_57 : decode cX11_takeLast 57 = .ok (.ireturn, 1) := by decide +kernel
theorem dX11_setPitch_0 : decode cX11_setPitch 0 = .ok (.aload_n 0, 1) := by decide +kernel
theorem dX11_setPitch_1 : decode cX11_setPitch 1 = .ok (.iconst 0, 1) := by decide +kernel
theorem dX11_setPitch_2 : decode cX11_setPitch 2 = .ok (.putfield 87, 3) := by decide +kernel
theorem dX11_setPitch_5 : decode cX11_setPitch 5 = .ok (.aload_n 0, 1) := by decide +kernel
theorem dX11_setPitch_6 : decode cX11_setPitch 6 = .ok (.iload_n 1, 1) := by decide +kernel
theorem dX11_setPitch_7 : decode cX11_setPitch 7 = .ok (.iload_n 2, 1) := by decide +kernel
theorem dX11_setPitch_8 : decode cX11_setPitch 8 = .ok (.invokevirtual 134, 3) := by decide +kernel
theorem dX11_setPitch_11 : decode cX11_setPitch 11 = .ok (.ifCond .ne 9, 3) := by decide +kernel
theorem dX11_setPitch_14 : decode cX11_setPitch 14 = .ok (.aload_n 0, 1) := by decide +kernel
theorem dX11_setPitch_15 : decode cX11_setPitch 15 = .ok (.iconst 1, 1) := by decide +kernel
theorem dX11_setPitch_16 : decode cX11_setPitch 16 = .ok (.invokevirtual 115, 3) := by decide +kernel
theorem dX11_setPitch_19 : decode cX11_setPitch 19 = .ok (.ireturn, 1) := by decide +kernel
theorem dX11_setPitch_20 : decode cX11_setPitch 20 = .ok (.iload_n 3, 1) := by decide +kernel
theorem dX11_setPitch_21 : decode cX11_setPitch 21 = .ok (.iload 4, 2) := by decide +kernel
theorem dX11_setPitch_23 : decode cX11_setPitch 23 = .ok (.invokestatic 122, 3) := by decide +kernel
theorem dX11_setPitch_26 : decode cX11_setPitch 26 = .ok (.ifCond .ne 9, 3) := by decide +kernel
theorem dX11_setPitch_29 : decode cX11_setPitch 29 = .ok (.aload_n 0, 1) := by decide +kernel
theorem dX11_setPitch_30 : decode cX11_setPitch 30 = .ok (.iconst 2, 1) := by decide +kernel
theorem dX11_setPitch_31 : decode cX11_setPitch 31 = .ok (.invokevirtual 115, 3) := by decide +kernel
theorem dX11_setPitch_34 : decode cX11_setPitch 34 = .ok (.ireturn, 1) := by decide +kernel
theorem dX11_setPitch_35 : decode cX11_setPitch 35 = .ok (.aload_n 0, 1) := by decide +kernel
theorem dX11_setPitch_36 : decode cX11_setPitch 36 = .ok (.getfield 24, 3) := by decide +kernel
theorem dX11_setPitch_39 : decode cX11_setPitch 39 = .ok (.iload_n 1, 1) := by decide +kernel
theorem dX11_setPitch_40 : decode cX11_setPitch 40 = .ok (.aaload, 1) := by decide +kernel
theorem dX11_setPitch_41 : decode cX11_setPitch 41 = .ok (.astore 5, 2) := by decide +kernel
theorem dX11_setPitch_43 : decode cX11_setPitch 43 = .ok (.aload 5, 2) := by decide +kernel
theorem dX11_setPitch_45 : decode cX11_setPitch 45 = .ok (.iload_n 2, 1) := by decide +kernel
theorem dX11_setPitch_46 : decode cX11_setPitch 46 = .ok (.invokevirtual 137, 3) := by decide +kernel
theorem dX11_setPitch_49 : decode cX11_setPitch 49 = .ok (.ifCond .ne 9, 3) := by decide +kernel
theorem dX11_setPitch_52 : decode cX11_setPitch 52 = .ok (.aload_n 0, 1) := by decide +kernel
theorem dX11_setPitch_53 : decode cX11_setPitch 53 = .ok (.iconst 3, 1) := by decide +kernel
theorem dX11_setPitch_54 : decode cX11_setPitch 54 = .ok (.invokevirtual 115, 3) := by decide +kernel
theorem dX11_setPitch_57 : decode cX11_setPitch 57 = .ok (.ireturn, 1) := by decide +kernel
theorem dX11_setPitch_58 : decode cX11_setPitch 58 = .ok (.aload 5, 2) := by decide +kernel
theorem dX11_setPitch_60 : decode cX11_setPitch 60 = .ok (.iload_n 2, 1) := by decide +kernel
theorem dX11_setPitch_61 : decode cX11_setPitch 61 = .ok (.invokevirtual 140, 3) := by decide +kernel
theorem dX11_setPitch_64 : decode cX11_setPitch 64 = .ok (.istore 6, 2) := by decide +kernel
theorem dX11_setPitch_66 : decode cX11_setPitch 66 = .ok (.aload 5, 2) := by decide +kernel
theorem dX11_setPitch_68 : decode cX11_setPitch 68 = .ok (.getfield 143, 3) := by decide +kernel
theorem dX11_setPitch_71 : decode cX11_setPitch 71 = .ok (.iload_n 2, 1) := by decide +kernel
theorem dX11_setPitch_72 : decode cX11_setPitch 72 = .ok (.iload_n 3, 1) := by decide +kernel
theorem dX11_setPitch_73 : decode cX11_setPitch 73 = .ok (.iastore, 1) := by decide +kernel
theorem dX11_setPitch_74 : decode cX11_setPitch 74 = .ok (.aload 5, 2) := by decide +kernel
theorem dX11_setPitch_76 : decode cX11_setPitch 76 = .ok (.getfield 146, 3) := by decide +kernel
theorem dX11_setPitch_79 : decode cX11_setPitch 79 = .ok (.iload_n 2, 1) := by decide +kernel
theorem dX11_setPitch_80 : decode cX11_setPitch 80 = .ok (.iload 4, 2) := by decide +kernel
theorem dX11_setPitch_82 : decode cX11_setPitch 82 = .ok (.iastore, 1) := by decide +kernel
theorem dX11_setPitch_83 : decode cX11_setPitch 83 = .ok (.iload 6, 2) := by decide +kernel
theorem dX11_setPitch_85 : decode cX11_setPitch 85 = .ok (.ireturn, 1) := by decide +kernel
theorem dX11_setMetre_0 : decode cX11_setMetre 0 = .ok (.aload_n 0, 1) := by decide +kernel
theorem dX11_setMetre_1 : decode cX11_setMetre 1 = .ok (.iconst 0, 1) := by decide +kernel
theorem dX11_setMetre_2 : decode cX11_setMetre 2 = .ok (.putfield 87, 3) := by decide +kernel
theorem dX11_setMetre_5 : decode cX11_setMetre 5 = .ok (.iload_n 1, 1) := by decide +kernel
theorem dX11_setMetre_6 : decode cX11_setMetre 6 = .ok (.invokestatic 149, 3) := by decide +kernel
theorem dX11_setMetre_9 : decode cX11_setMetre 9 = .ok (.ifCond .ne 9, 3) := by decide +kernel
theorem dX11_setMetre_12 : decode cX11_setMetre 12 = .ok (.aload_n 0, 1) := by decide +kernel
theorem dX11_setMetre_13 : decode cX11_setMetre 13 = .ok (.iconst 1, 1) := by decide +kernel
theorem dX11_setMetre_14 : decode cX11_setMetre 14 = .ok (.invokevirtual 115, 3) := by decide +kernel
theorem dX11_setMetre_17 : decode cX11_setMetre 17 = .ok (.ireturn, 1) := by decide +kernel
theorem dX11_setMetre_18 : decode cX11_setMetre 18 = .ok (.iload_n 2, 1) := by decide +kernel
theorem dX11_setMetre_19 : decode cX11_setMetre 19 = .ok (.iconst 1, 1) := by decide +kernel
theorem dX11_setMetre_20 : decode cX11_setMetre 20 = .ok (.bipush 12, 2) := by decide +kernel
theorem dX11_setMetre_22 : decode cX11_setMetre 22 = .ok (.invokestatic 91, 3) := by decide +kernel
theorem dX11_setMetre_25 : decode cX11_setMetre 25 = .ok (.ifCond .eq 19, 3) := by decide +kernel
theorem dX11_setMetre_28 : decode cX11_setMetre 28 = .ok (.iload_n 3, 1) := by decide +kernel
theorem dX11_setMetre_29 : decode cX11_setMetre 29 = .ok (.iconst 2, 1) := by decide +kernel
theorem dX11_setMetre_30 : decode cX11_setMetre 30 = .ok (.if_icmp .eq 20, 3) := by decide +kernel
theorem dX11_setMetre_33 : decode cX11_setMetre 33 = .ok (.iload_n 3, 1) := by decide +kernel
theorem dX11_setMetre_34 : decode cX11_setMetre 34 = .ok (.iconst 4, 1) := by decide +kernel
theorem dX11_setMetre_35 : decode cX11_setMetre 35 = .ok (.if_icmp .eq 15, 3) := by decide +kernel
theorem dX11_setMetre_38 : decode cX11_setMetre 38 = .ok (.iload_n 3, 1) := by decide +kernel
theorem dX11_setMetre_39 : decode cX11_setMetre 39 = .ok (.bipush 8, 2) := by decide +kernel
theorem dX11_setMetre_41 : decode cX11_setMetre 41 = .ok (.if_icmp .eq 9, 3) := by decide +kernel
theorem dX11_setMetre_44 : decode cX11_setMetre 44 = .ok (.aload_n 0, 1) := by decide +kernel
theorem dX11_setMetre_45 : decode cX11_setMetre 45 = .ok (.iconst 2, 1) := by decide +kernel
theorem dX11_setMetre_46 : decode cX11_setMetre 46 = .ok (.invokevirtual 115, 3) := by decide +kernel
theorem dX11_setMetre_49 : decode cX11_setMetre 49 = .ok (.ireturn, 1) := by decide +kernel
theorem dX11_setMetre_50 : decode cX11_setMetre 50 = .ok (.iload_n 1, 1) := by decide +kernel
theorem dX11_setMetre_51 : decode cX11_setMetre 51 = .ok (.istore 4, 2) := by decide +kernel
theorem dX11_setMetre_53 : decode cX11_setMetre 53 = .ok (.iload 4, 2) := by decide +kernel
theorem dX11_setMetre_55 : decode cX11_setMetre 55 = .ok (.bipush 24, 2) := by decide +kernel
theorem dX11_setMetre_57 : decode cX11_setMetre 57 = .ok (.if_icmp .ge 25, 3) := by decide +kernel
theorem dX11_setMetre_60 : decode cX11_setMetre 60 = .ok (.aload_n 0, 1) := by decide +kernel
theorem dX11_setMetre_61 : decode cX11_setMetre 61 = .ok (.getfield 28, 3) := by decide +kernel
theorem dX11_setMetre_64 : decode cX11_setMetre 64 = .ok (.iload 4, 2) := by decide +kernel
theorem dX11_setMetre_66 : decode cX11_setMetre 66 = .ok (.iload_n 2, 1) := by decide +kernel
theorem dX11_setMetre_67 : decode cX11_setMetre 67 = .ok (.iastore, 1) := by decide +kernel
theorem dX11_setMetre_68 : decode cX11_setMetre 68 = .ok (.aload_n 0, 1) := by decide +kernel
theorem dX11_setMetre_69 : decode cX11_setMetre 69 = .ok (.getfield 31, 3) := by decide +kernel
theorem dX11_setMetre_72 : decode cX11_setMetre 72 = .ok (.iload 4, 2) := by decide +kernel
theorem dX11_setMetre_74 : decode cX11_setMetre 74 = .ok (.iload_n 3, 1) := by decide +kernel
theorem dX11_setMetre_75 : decode cX11_setMetre 75 = .ok (.iastore, 1) := by decide +kernel
theorem dX11_setMetre_76 : decode cX11_setMetre 76 = .ok (.iinc 4 1, 3) := by decide +kernel
theorem dX11_setMetre_79 : decode cX11_setMetre 79 = .ok (.goto (-26), 3) := by decide +kernel
theorem dX11_setMetre_82 : decode cX11_setMetre 82 = .ok (.aload_n 0, 1) := by decide +kernel
theorem dX11_setMetre_83 : decode cX11_setMetre 83 = .ok (.iload_n 1, 1) := by decide +kernel
theorem dX11_setMetre_84 : decode cX11_setMetre 84 = .ok (.invokevirtual 105, 3) := by decide +kernel
theorem dX11_setMetre_87 : decode cX11_setMetre 87 = .ok (.ireturn, 1) := by decide +kernel
theorem dX11_setKey_0 : decode cX11_setKey 0 = .ok (.aload_n 0, 1) := by decide +kernel
theorem dX11_setKey_1 : decode cX11_setKey 1 = .ok (.iconst 0, 1) := by decide +kernel
theorem dX11_setKey_2 : decode cX11_setKey 2 = .ok (.putfield 87, 3) := by decide +kernel
theorem dX11_setKey_5 : decode cX11_setKey 5 = .ok (.iload_n 1, 1) := by decide +kernel
theorem dX11_setKey_6 : decode cX11_setKey 6 = .ok (.invokestatic 149, 3) := by decide +kernel
theorem dX11_setKey_9 : decode cX11_setKey 9 = .ok (.ifCond .ne 9, 3) := by decide +kernel
theorem dX11_setKey_12 : decode cX11_setKey 12 = .ok (.aload_n 0, 1) := by decide +kernel
theorem dX11_setKey_13 : decode cX11_setKey 13 = .ok (.iconst 1, 1) := by decide +kernel
theorem dX11_setKey_14 : decode cX11_setKey 14 = .ok (.invokevirtual 115, 3) := by decide +kernel
theorem dX11_setKey_17 : decode cX11_setKey 17 = .ok (.ireturn, 1) := by decide +kernel
theorem dX11_setKey_18 : decode cX11_setKey 18 = .ok (.iload_n 2, 1) := by decide +kernel
theorem dX11_setKey_19 : decode cX11_setKey 19 = .ok (.bipush (-7), 2) := by decide +kernel
theorem dX11_setKey_21 : decode cX11_setKey 21 = .ok (.bipush 7, 2) := by decide +kernel
theorem dX11_setKey_23 : decode cX11_setKey 23 = .ok (.invokestatic 91, 3) := by decide +kernel
theorem dX11_setKey_26 : decode cX11_setKey 26 = .ok (.ifCond .ne 9, 3) := by decide +kernel
theorem dX11_setKey_29 : decode cX11_setKey 29 = .ok (.aload_n 0, 1) := by decide +kernel
theorem dX11_setKey_30 : decode cX11_setKey 30 = .ok (.iconst 2, 1) := by decide +kernel
theorem dX11_setKey_31 : decode cX11_setKey 31 = .ok (.invokevirtual 115, 3) := by decide +kernel
theorem dX11_setKey_34 : decode cX11_setKey 34 = .ok (.ireturn, 1) := by decide +kernel
theorem dX11_setKey_35 : decode cX11_setKey 35 = .ok (.aload_n 0, 1) := by decide +kernel
theorem dX11_setKey_36 : decode cX11_setKey 36 = .ok (.getfield 34, 3) := by decide +kernel
theorem dX11_setKey_39 : decode cX11_setKey 39 = .ok (.iload_n 1, 1) := by decide +kernel
theorem dX11_setKey_40 : decode cX11_setKey 40 = .ok (.iaload, 1) := by decide +kernel
theorem dX11_setKey_41 : decode cX11_setKey 41 = .ok (.istore_n 3, 1) := by decide +kernel
theorem dX11_setKey_42 : decode cX11_setKey 42 = .ok (.iload_n 1, 1) := by decide +kernel
theorem dX11_setKey_43 : decode cX11_setKey 43 = .ok (.istore 4, 2) := by decide +kernel
theorem dX11_setKey_45 : decode cX11_setKey 45 = .ok (.iload 4, 2) := by decide +kernel
theorem dX11_setKey_47 : decode cX11_setKey 47 = .ok (.bipush 24, 2) := by decide +kernel
theorem dX11_setKey_49 : decode cX11_setKey 49 = .ok (.if_icmp .ge 17, 3) := by decide +kernel
theorem dX11_setKey_52 : decode cX11_setKey 52 = .ok (.aload_n 0, 1) := by decide +kernel
theorem dX11_setKey_53 : decode cX11_setKey 53 = .ok (.getfield 34, 3) := by decide +kernel
theorem dX11_setKey_56 : decode cX11_setKey 56 = .ok (.iload 4, 2) := by decide +kernel
theorem dX11_setKey_58 : decode cX11_setKey 58 = .ok (.iload_n 2, 1) := by decide +kernel
theorem dX11_setKey_59 : decode cX11_setKey 59 = .ok (.iastore, 1) := by decide +kernel
theorem dX11_setKey_60 : decode cX11_setKey 60 = .ok (.iinc 4 1, 3) := by decide +kernel
theorem dX11_setKey_63 : decode cX11_setKey 63 = .ok (.goto (-18), 3) := by decide +kernel
theorem dX11_setKey_66 : decode cX11_setKey 66 = .ok (.iload_n 3, 1) := by decide +kernel
theorem dX11_setKey_67 : decode cX11_setKey 67 = .ok (.ireturn, 1) := by decide +kernel
theorem dX11_setRange_0 : decode cX11_setRange 0 = .ok (.aload_n 0, 1) := by decide +kernel
theorem dX11_setRange_1 : decode cX11_setRange 1 = .ok (.iconst 0, 1) := by decide +kernel
theorem dX11_setRange_2 : decode cX11_setRange 2 = .ok (.putfield 87, 3) := by decide +kernel
theorem dX11_setRange_5 : decode cX11_setRange 5 = .ok (.iload_n 1, 1) := by decide +kernel
theorem dX11_setRange_6 : decode cX11_setRange 6 = .ok (.invokestatic 95, 3) := by decide +kernel
theorem dX11_setRange_9 : decode cX11_setRange 9 = .ok (.ifCond .ne 9, 3) := by decide +kernel
theorem dX11_setRange_12 : decode cX11_setRange 12 = .ok (.aload_n 0, 1) := by decide +kernel
theorem dX11_setRange_13 : decode cX11_setRange 13 = .ok (.iconst 1, 1) := by decide +kernel
theorem dX11_setRange_14 : decode cX11_setRange 14 = .ok (.invokevirtual 115, 3) := by decide +kernel
theorem dX11_setRange_17 : decode cX11_setRange 17 = .ok (.ireturn, 1) := by decide +kernel
theorem dX11_setRange_18 : decode cX11_setRange 18 = .ok (.iload_n 2, 1) := by decide +kernel
theorem dX11_setRange_19 : decode cX11_setRange 19 = .ok (.iconst 1, 1) := by decide +kernel
theorem dX11_setRange_20 : decode cX11_setRange 20 = .ok (.bipush 62, 2) := by decide +kernel
theorem dX11_setRange_22 : decode cX11_setRange 22 = .ok (.invokestatic 91, 3) := by decide +kernel
theorem dX11_setRange_25 : decode cX11_setRange 25 = .ok (.ifCond .eq 13, 3) := by decide +kernel
theorem dX11_setRange_28 : decode cX11_setRange 28 = .ok (.iload_n 3, 1) := by decide +kernel
theorem dX11_setRange_29 : decode cX11_setRange 29 = .ok (.iload_n 2, 1) := by decide +kernel
theorem dX11_setRange_30 : decode cX11_setRange 30 = .ok (.bipush 62, 2) := by decide +kernel
theorem dX11_setRange_32 : decode cX11_setRange 32 = .ok (.invokestatic 91, 3) := by decide +kernel
theorem dX11_setRange_35 : decode cX11_setRange 35 = .ok (.ifCond .ne 9, 3) := by decide +kernel
theorem dX11_setRange_38 : decode cX11_setRange 38 = .ok (.aload_n 0, 1) := by decide +kernel
theorem dX11_setRange_39 : decode cX11_setRange 39 = .ok (.iconst 2, 1) := by decide +kernel
theorem dX11_setRange_40 : decode cX11_setRange 40 = .ok (.invokevirtual 115, 3) := by decide +kernel
theorem dX11_setRange_43 : decode cX11_setRange 43 = .ok (.ireturn, 1) := by decide +kernel
theorem dX11_setRange_44 : decode cX11_setRange 44 = .ok (.aload_n 0, 1) := by decide +kernel
theorem dX11_setRange_45 : decode cX11_setRange 45 = .ok (.getfield 24, 3) := by decide +kernel
theorem dX11_setRange_48 : decode cX11_setRange 48 = .ok (.iload_n 1, 1) := by decide +kernel
theorem dX11_setRange_49 : decode cX11_setRange 49 = .ok (.aaload, 1) := by decide +kernel
theorem dX11_setRange_50 : decode cX11_setRange 50 = .ok (.astore 4, 2) := by decide +kernel
theorem dX11_setRange_52 : decode cX11_setRange 52 = .ok (.aload 4, 2) := by decide +kernel
theorem dX11_setRange_54 : decode cX11_setRange 54 = .ok (.iload_n 2, 1) := by decide +kernel
theorem dX11_setRange_55 : decode cX11_setRange 55 = .ok (.putfield 152, 3) := by decide +kernel
theorem dX11_setRange_58 : decode cX11_setRange 58 = .ok (.aload 4, 2) := by decide +kernel
theorem dX11_setRange_60 : decode cX11_setRange 60 = .ok (.iload_n 3, 1) := by decide +kernel
theorem dX11_setRange_61 : decode cX11_setRange 61 = .ok (.putfield 155, 3) := by decide +kernel
theorem dX11_setRange_64 : decode cX11_setRange 64 = .ok (.iconst 0, 1) := by decide +kernel
theorem dX11_setRange_65 : decode cX11_setRange 65 = .ok (.istore 5, 2) := by decide +kernel
theorem dX11_setRange_67 : decode cX11_setRange 67 = .ok (.iconst 0, 1) := by decide +kernel
theorem dX11_setRange_68 : decode cX11_setRange 68 = .ok (.istore 6, 2) := by decide +kernel
theorem dX11_setRange_70 : decode cX11_setRange 70 = .ok (.iload 6, 2) := by decide +kernel
theorem dX11_setRange_72 : decode cX11_setRange 72 = .ok (.aload 4, 2) := by decide +kernel
theorem dX11_setRange_74 : decode cX11_setRange 74 = .ok (.getfield 99, 3) := by decide +kernel
theorem dX11_setRange_77 : decode cX11_setRange 77 = .ok (.if_icmp .ge 29, 3) := by decide +kernel
theorem dX11_setRange_80 : decode cX11_setRange 80 = .ok (.iload 5, 2) := by decide +kernel
theorem dX11_setRange_82 : decode cX11_setRange 82 = .ok (.aload 4, 2) := by decide +kernel
theorem dX11_setRange_84 : decode cX11_setRange 84 = .ok (.iload 6, 2) := by decide +kernel
theorem dX11_setRange_86 : decode cX11_setRange 86 = .ok (.invokevirtual 158, 3) := by decide +kernel
theorem dX11_setRange_89 : decode cX11_setRange 89 = .ok (.ifCond .eq 7, 3) := by decide +kernel
theorem dX11_setRange_92 : decode cX11_setRange 92 = .ok (.iconst 1, 1) := by decide +kernel
theorem dX11_setRange_93 : decode cX11_setRange 93 = .ok (.goto 4, 3) := by decide +kernel
theorem dX11_setRange_96 : decode cX11_setRange 96 = .ok (.iconst 0, 1) := by decide +kernel
theorem dX11_setRange_97 : decode cX11_setRange 97 = .ok (.iadd, 1) := by decide +kernel
theorem dX11_setRange_98 : decode cX11_setRange 98 = .ok (.istore 5, 2) := by decide +kernel
theorem dX11_setRange_100 : decode cX11_setRange 100 = .ok (.iinc 6 1, 3) := by decide +kernel
theorem dX11_setRange_103 : decode cX11_setRange 103 = .ok (.goto (-33), 3) := by decide +kernel
theorem dX11_setRange_106 : decode cX11_setRange 106 = .ok (.iload 5, 2) := by decide +kernel
theorem dX11_setRange_108 : decode cX11_setRange 108 = .ok (.ireturn, 1) := by decide +kernel
theorem dX11_setShift_0 : decode cX11_setShift 0 = .ok (.aload_n 0, 1) := by decide +kernel
theorem dX11_setShift_1 : decode cX11_setShift 1 = .ok (.iconst 0, 1) := by decide +kernel
theorem dX11_setShift_2 : decode cX11_setShift 2 = .ok (.putfield 87, 3) := by decide +kernel
theorem dX11_setShift_5 : decode cX11_setShift 5 = .ok (.iload_n 1, 1) := by decide +kernel
theorem dX11_setShift_6 : decode cX11_setShift 6 = .ok (.invokestatic 95, 3) := by decide +kernel
theorem dX11_setShift_9 : decode cX11_setShift 9 = .ok (.ifCond .ne 9, 3) := by decide +kernel
theorem dX11_setShift_12 : decode cX11_setShift 12 = .ok (.aload_n 0, 1) := by decide +kernel
theorem dX11_setShift_13 : decode cX11_setShift 13 = .ok (.iconst 1, 1) := by decide +kernel
theorem dX11_setShift_14 : decode cX11_setShift 14 = .ok (.invokevirtual 115, 3) := by decide +kernel
theorem dX11_setShift_17 : decode cX11_setShift 17 = .ok (.ireturn, 1) := by decide +kernel
theorem dX11_setShift_18 : decode cX11_setShift 18 = .ok (.iload_n 2, 1) := by decide +kernel
theorem dX11_setShift_19 : decode cX11_setShift 19 = .ok (.bipush (-6), 2) := by decide +kernel
theorem dX11_setShift_21 : decode cX11_setShift 21 = .ok (.bipush 6, 2) := by decide +kernel
theorem dX11_setShift_23 : decode cX11_setShift 23 = .ok (.invokestatic 91, 3) := by decide +kernel
theorem dX11_setShift_26 : decode cX11_setShift 26 = .ok (.ifCond .eq 13, 3) := by decide +kernel
theorem dX11_setShift_29 : decode cX11_setShift 29 = .ok (.iload_n 3, 1) := by decide +kernel
theorem dX11_setShift_30 : decode cX11_setShift 30 = .ok (.bipush (-2), 2) := by decide +kernel
theorem dX11_setShift_32 : decode cX11_setShift 32 = .ok (.iconst 2, 1) := by decide +kernel
theorem dX11_setShift_33 : decode cX11_setShift 33 = .ok (.invokestatic 91, 3) := by decide +kernel
theorem dX11_setShift_36 : decode cX11_setShift 36 = .ok (.ifCond .ne 9, 3) := by decide +kernel
theorem dX11_setShift_39 : decode cX11_setShift 39 = .ok (.aload_n 0, 1) := by decide +kernel
theorem dX11_setShift_40 : decode cX11_setShift 40 = .ok (.iconst 2, 1) := by decide +kernel
theorem dX11_setShift_41 : decode cX11_setShift 41 = .ok (.invokevirtual 115, 3) := by decide +kernel
theorem dX11_setShift_44 : decode cX11_setShift 44 = .ok (.ireturn, 1) := by decide +kernel
theorem dX11_setShift_45 : decode cX11_setShift 45 = .ok (.aload_n 0, 1) := by decide +kernel
theorem dX11_setShift_46 : decode cX11_setShift 46 = .ok (.getfield 24, 3) := by decide +kernel
theorem dX11_setShift_49 : decode cX11_setShift 49 = .ok (.iload_n 1, 1) := by decide +kernel
theorem dX11_setShift_50 : decode cX11_setShift 50 = .ok (.aaload, 1) := by decide +kernel
theorem dX11_setShift_51 : decode cX11_setShift 51 = .ok (.astore 4, 2) := by decide +kernel
theorem dX11_setShift_53 : decode cX11_setShift 53 = .ok (.aload 4, 2) := by decide +kernel
theorem dX11_setShift_55 : decode cX11_setShift 55 = .ok (.iload_n 2, 1) := by decide +kernel
theorem dX11_setShift_56 : decode cX11_setShift 56 = .ok (.putfield 161, 3) := by decide +kernel
theorem dX11_setShift_59 : decode cX11_setShift 59 = .ok (.aload 4, 2) := by decide +kernel
theorem dX11_setShift_61 : decode cX11_setShift 61 = .ok (.iload_n 3, 1) := by decide +kernel
theorem dX11_setShift_62 : decode cX11_setShift 62 = .ok (.putfield 164, 3) := by decide +kernel
theorem dX11_setShift_65 : decode cX11_setShift 65 = .ok (.iconst 0, 1) := by decide +kernel
theorem dX11_setShift_66 : decode cX11_setShift 66 = .ok (.istore 5, 2) := by decide +kernel
theorem dX11_setShift_68 : decode cX11_setShift 68 = .ok (.iconst 0, 1) := by decide +kernel
theorem dX11_setShift_69 : decode cX11_setShift 69 = .ok (.istore 6, 2) := by decide +kernel
theorem dX11_setShift_71 : decode cX11_setShift 71 = .ok (.iload 6, 2) := by decide +kernel
theorem dX11_setShift_73 : decode cX11_setShift 73 = .ok (.aload 4, 2) := by decide +kernel
theorem dX11_setShift_75 : decode cX11_setShift 75 = .ok (.getfield 99, 3) := by decide +kernel
theorem dX11_setShift_78 : decode cX11_setShift 78 = .ok (.if_icmp .ge 39, 3) := by decide +kernel
theorem dX11_setShift_81 : decode cX11_setShift 81 = .ok (.iload 5, 2) := by decide +kernel
theorem dX11_setShift_83 : decode cX11_setShift 83 = .ok (.aload 4, 2) := by decide +kernel
theorem dX11_setShift_85 : decode cX11_setShift 85 = .ok (.iload 6, 2) := by decide +kernel
theorem dX11_setShift_87 : decode cX11_setShift 87 = .ok (.invokevirtual 137, 3) := by decide +kernel
theorem dX11_setShift_90 : decode cX11_setShift 90 = .ok (.ifCond .eq 17, 3) := by decide +kernel
theorem dX11_setShift_93 : decode cX11_setShift 93 = .ok (.aload 4, 2) := by decide +kernel
theorem dX11_setShift_95 : decode cX11_setShift 95 = .ok (.iload 6, 2) := by decide +kernel
theorem dX11_setShift_97 : decode cX11_setShift 97 = .ok (.invokevirtual 167, 3) := by decide +kernel
theorem dX11_setShift_100 : decode cX11_setShift 100 = .ok (.ifCond .ne 7, 3) := by decide +kernel
theorem dX11_setShift_103 : decode cX11_setShift 103 = .ok (.iconst 1, 1) := by decide +kernel
theorem dX11_setShift_104 : decode cX11_setShift 104 = .ok (.goto 4, 3) := by decide +kernel
theorem dX11_setShift_107 : decode cX11_setShift 107 = .ok (.iconst 0, 1) := by decide +kernel
theorem dX11_setShift_108 : decode cX11_setShift 108 = .ok (.iadd, 1) := by decide +kernel
theorem dX11_setShift_109 : decode cX11_setShift 109 = .ok (.istore 5, 2) := by decide +kernel
theorem dX11_setShift_111 : decode cX11_setShift 111 = .ok (.iinc 6 1, 3) := by decide +kernel
theorem dX11_setShift_114 : decode cX11_setShift 114 = .ok (.goto (-43), 3) := by decide +kernel
theorem dX11_setShift_117 : decode cX11_setShift 117 = .ok (.iload 5, 2) := by decide +kernel
theorem dX11_setShift_119 : decode cX11_setShift 119 = .ok (.ireturn, 1) := by decide +kernel
theorem dX11_events_0 : decode cX11_events 0 = .ok (.aload_n 0, 1) := by decide +kernel
theorem dX11_events_1 : decode cX11_events 1 = .ok (.iconst 0, 1) := by decide +kernel
theorem dX11_events_2 : decode cX11_events 2 = .ok (.putfield 87, 3) := by decide +kernel
theorem dX11_events_5 : decode cX11_events 5 = .ok (.iload_n 1, 1) := by decide +kernel
theorem dX11_events_6 : decode cX11_events 6 = .ok (.invokestatic 95, 3) := by decide +kernel
theorem dX11_events_9 : decode cX11_events 9 = .ok (.ifCond .eq 15, 3) := by decide +kernel
theorem dX11_events_12 : decode cX11_events 12 = .ok (.aload_n 0, 1) := by decide +kernel
theorem dX11_events_13 : decode cX11_events 13 = .ok (.getfield 24, 3) := by decide +kernel
theorem dX11_events_16 : decode cX11_events 16 = .ok (.iload_n 1, 1) := by decide +kernel
theorem dX11_events_17 : decode cX11_events 17 = .ok (.aaload, 1) := by decide +kernel
theorem dX11_events_18 : decode cX11_events 18 = .ok (.getfield 99, 3) := by decide +kernel
theorem dX11_events_21 : decode cX11_events 21 = .ok (.goto 8, 3) := by decide +kernel
theorem dX11_events_24 : decode cX11_events 24 = .ok (.aload_n 0, 1) := by decide +kernel
theorem dX11_events_25 : decode cX11_events 25 = .ok (.iconst 1, 1) := by decide +kernel
theorem dX11_events_26 : decode cX11_events 26 = .ok (.invokevirtual 115, 3) := by decide +kernel
theorem dX11_events_29 : decode cX11_events 29 = .ok (.ireturn, 1) := by decide +kernel
theorem dX11_beginOf_0 : decode cX11_beginOf 0 = .ok (.aload_n 0, 1) := by decide +kernel
theorem dX11_beginOf_1 : decode cX11_beginOf 1 = .ok (.iconst 0, 1) := by decide +kernel
theorem dX11_beginOf_2 : decode cX11_beginOf 2 = .ok (.putfield 87, 3) := by decide +kernel
theorem dX11_beginOf_5 : decode cX11_beginOf 5 = .ok (.aload_n 0, 1) := by decide +kernel
theorem dX11_beginOf_6 : decode cX11_beginOf 6 = .ok (.iload_n 1, 1) := by decide +kernel
theorem dX11_beginOf_7 : decode cX11_beginOf 7 = .ok (.iload_n 2, 1) := by decide +kernel
theorem dX11_beginOf_8 : decode cX11_beginOf 8 = .ok (.invokevirtual 134, 3) := by decide +kernel
theorem dX11_beginOf_11 : decode cX11_beginOf 11 = .ok (.ifCond .eq 17, 3) := by decide +kernel
theorem dX11_beginOf_14 : decode cX11_beginOf 14 = .ok (.aload_n 0, 1) := by decide +kernel
theorem dX11_beginOf_15 : decode cX11_beginOf 15 = .ok (.getfield 24, 3) := by decide +kernel
theorem dX11_beginOf_18 : decode cX11_beginOf 18 = .ok (.iload_n 1, 1) := by decide +kernel
theorem dX11_beginOf_19 : decode cX11_beginOf 19 = .ok (.aaload, 1) := by decide +kernel
theorem dX11_beginOf_20 : decode cX11_beginOf 20 = .ok (.getfield 170, 3) := by decide +kernel
theorem dX11_beginOf_23 : decode cX11_beginOf 23 = .ok (.iload_n 2, 1) := by decide +kernel
theorem dX11_beginOf_24 : decode cX11_beginOf 24 = .ok (.iaload, 1) := by decide +kernel
theorem dX11_beginOf_25 : decode cX11_beginOf 25 = .ok (.goto 8, 3) := by decide +kernel
theorem dX11_beginOf_28 : decode cX11_beginOf 28 = .ok (.aload_n 0, 1) := by decide +kernel
theorem dX11_beginOf_29 : decode cX11_beginOf 29 = .ok (.iconst 1, 1) := by decide +kernel
theorem dX11_beginOf_30 : decode cX11_beginOf 30 = .ok (.invokevirtual 115, 3) := by decide +kernel
theorem dX11_beginOf_33 : decode cX11_beginOf 33 = .ok (.ireturn, 1) := by decide +kernel
theorem dX11_heightNow_0 : decode cX11_heightNow 0 = .ok (.aload_n 0, 1) := by decide +kernel
theorem dX11_heightNow_1 : decode cX11_heightNow 1 = .ok (.getfield 24, 3) := by decide +kernel
theorem dX11_heightNow_4 : decode cX11_heightNow 4 = .ok (.iload_n 1, 1) := by decide +kernel
theorem dX11_heightNow_5 : decode cX11_heightNow 5 = .ok (.aaload, 1) := by decide +kernel
theorem dX11_heightNow_6 : decode cX11_heightNow 6 = .ok (.iload_n 2, 1) := by decide +kernel
theorem dX11_heightNow_7 : decode cX11_heightNow 7 = .ok (.invokevirtual 137, 3) := by decide +kernel
theorem dX11_heightNow_10 : decode cX11_heightNow 10 = .ok (.ifCond .eq 16, 3) := by decide +kernel
theorem dX11_heightNow_13 : decode cX11_heightNow 13 = .ok (.aload_n 0, 1) := by decide +kernel
theorem dX11_heightNow_14 : decode cX11_heightNow 14 = .ok (.getfield 24, 3) := by decide +kernel
theorem dX11_heightNow_17 : decode cX11_heightNow 17 = .ok (.iload_n 1, 1) := by decide +kernel
theorem dX11_heightNow_18 : decode cX11_heightNow 18 = .ok (.aaload, 1) := by decide +kernel
theorem dX11_heightNow_19 : decode cX11_heightNow 19 = .ok (.iload_n 2, 1) := by decide +kernel
theorem dX11_heightNow_20 : decode cX11_heightNow 20 = .ok (.invokevirtual 140, 3) := by decide +kernel
theorem dX11_heightNow_23 : decode cX11_heightNow 23 = .ok (.goto 4, 3) := by decide +kernel
theorem dX11_heightNow_26 : decode cX11_heightNow 26 = .ok (.iconst (-1), 1) := by decide +kernel
theorem dX11_heightNow_27 : decode cX11_heightNow 27 = .ok (.ireturn, 1) := by decide +kernel
theorem dX11_heightOf_0 : decode cX11_heightOf 0 = .ok (.aload_n 0, 1) := by decide +kernel
theorem dX11_heightOf_1 : decode cX11_heightOf 1 = .ok (.iconst 0, 1) := by decide +kernel
theorem dX11_heightOf_2 : decode cX11_heightOf 2 = .ok (.putfield 87, 3) := by decide +kernel
theorem dX11_heightOf_5 : decode cX11_heightOf 5 = .ok (.aload_n 0, 1) := by decide +kernel
theorem dX11_heightOf_6 : decode cX11_heightOf 6 = .ok (.iload_n 1, 1) := by decide +kernel
theorem dX11_heightOf_7 : decode cX11_heightOf 7 = .ok (.iload_n 2, 1) := by decide +kernel
theorem dX11_heightOf_8 : decode cX11_heightOf 8 = .ok (.invokevirtual 134, 3) := by decide +kernel
theorem dX11_heightOf_11 : decode cX11_heightOf 11 = .ok (.ifCond .eq 12, 3) := by decide +kernel
theorem dX11_heightOf_14 : decode cX11_heightOf 14 = .ok (.aload_n 0, 1) := by decide +kernel
theorem dX11_heightOf_15 : decode cX11_heightOf 15 = .ok (.iload_n 1, 1) := by decide +kernel
theorem dX11_heightOf_16 : decode cX11_heightOf 16 = .ok (.iload_n 2, 1) := by decide +kernel
theorem dX11_heightOf_17 : decode cX11_heightOf 17 = .ok (.invokevirtual 172, 3) := by decide +kernel
theorem dX11_heightOf_20 : decode cX11_heightOf 20 = .ok (.goto 8, 3) := by decide +kernel
theorem dX11_heightOf_23 : decode cX11_heightOf 23 = .ok (.aload_n 0, 1) := by decide +kernel
theorem dX11_heightOf_24 : decode cX11_heightOf 24 = .ok (.iconst 1, 1) := by decide +kernel
theorem dX11_heightOf_25 : decode cX11_heightOf 25 = .ok (.invokevirtual 115, 3) := by decide +kernel
theorem dX11_heightOf_28 : decode cX11_heightOf 28 = .ok (.ireturn, 1) := by decide +kernel
theorem dX11_barAt_0 : decode cX11_barAt 0 = .ok (.iconst 0, 1) := by decide +kernel
theorem dX11_barAt_1 : decode cX11_barAt 1 = .ok (.istore_n 2, 1) := by decide +kernel
theorem dX11_barAt_2 : decode cX11_barAt 2 = .ok (.aload_n 0, 1) := by decide +kernel
theorem dX11_barAt_3 : decode cX11_barAt 3 = .ok (.iconst 0, 1) := by decide +kernel
theorem dX11_barAt_4 : decode cX11_barAt 4 = .ok (.invokevirtual 105, 3) := by decide +kernel
theorem dX11_barAt_7 : decode cX11_barAt 7 = .ok (.istore_n 3, 1) := by decide +kernel
theorem dX11_barAt_8 : decode cX11_barAt 8 = .ok (.iload_n 2, 1) := by decide +kernel
theorem dX11_barAt_9 : decode cX11_barAt 9 = .ok (.bipush 24, 2) := by decide +kernel
theorem dX11_barAt_11 : decode cX11_barAt 11 = .ok (.if_icmp .ge 32, 3) := by decide +kernel
theorem dX11_barAt_14 : decode cX11_barAt 14 = .ok (.iload_n 3, 1) := by decide +kernel
theorem dX11_barAt_15 : decode cX11_barAt 15 = .ok (.iload_n 1, 1) := by decide +kernel
theorem dX11_barAt_16 : decode cX11_barAt 16 = .ok (.if_icmp .gt 27, 3) := by decide +kernel
theorem dX11_barAt_19 : decode cX11_barAt 19 = .ok (.iinc 2 1, 3) := by decide +kernel
theorem dX11_barAt_22 : decode cX11_barAt 22 = .ok (.iload_n 3, 1) := by decide +kernel
theorem dX11_barAt_23 : decode cX11_barAt 23 = .ok (.iload_n 2, 1) := by decide +kernel
theorem dX11_barAt_24 : decode cX11_barAt 24 = .ok (.bipush 24, 2) := by decide +kernel
theorem dX11_barAt_26 : decode cX11_barAt 26 = .ok (.if_icmp .ge 11, 3) := by decide +kernel
theorem dX11_barAt_29 : decode cX11_barAt 29 = .ok (.aload_n 0, 1) := by decide +kernel
theorem dX11_barAt_30 : decode cX11_barAt 30 = .ok (.iload_n 2, 1) := by decide +kernel
theorem dX11_barAt_31 : decode cX11_barAt 31 = .ok (.invokevirtual 105, 3) := by decide +kernel
theorem dX11_barAt_34 : decode cX11_barAt 34 = .ok (.goto 4, 3) := by decide +kernel
theorem dX11_barAt_37 : decode cX11_barAt 37 = .ok (.iconst 0, 1) := by decide +kernel
theorem dX11_barAt_38 : decode cX11_barAt 38 = .ok (.iadd, 1) := by decide +kernel
theorem dX11_barAt_39 : decode cX11_barAt 39 = .ok (.istore_n 3, 1) := by decide +kernel
theorem dX11_barAt_40 : decode cX11_barAt 40 = .ok (.goto (-32), 3) := by decide +kernel
theorem dX11_barAt_43 : decode cX11_barAt 43 = .ok (.iload_n 2, 1) := by decide +kernel
theorem dX11_barAt_44 : decode cX11_barAt 44 = .ok (.bipush 24, 2) := by decide +kernel
theorem dX11_barAt_46 : decode cX11_barAt 46 = .ok (.if_icmp .ge 7, 3) := by decide +kernel
theorem dX11_barAt_49 : decode cX11_barAt 49 = .ok (.iload_n 2, 1) := by decide +kernel
theorem dX11_barAt_50 : decode cX11_barAt 50 = .ok (.goto 4, 3) := by decide +kernel
theorem dX11_barAt_53 : decode cX11_barAt 53 = .ok (.iconst (-1), 1) := by decide +kernel
theorem dX11_barAt_54 : decode cX11_barAt 54 = .ok (.ireturn, 1) := by decide +kernel
theorem dX11_barOf_0 : decode cX11_barOf 0 = .ok (.aload_n 0, 1) := by decide +kernel
theorem dX11_barOf_1 : decode cX11_barOf 1 = .ok (.iconst 0, 1) := by decide +kernel
theorem dX11_barOf_2 : decode cX11_barOf 2 = .ok (.putfield 87, 3) := by decide +kernel
theorem dX11_barOf_5 : decode cX11_barOf 5 = .ok (.aload_n 0, 1) := by decide +kernel
theorem dX11_barOf_6 : decode cX11_barOf 6 = .ok (.iload_n 1, 1) := by decide +kernel
theorem dX11_barOf_7 : decode cX11_barOf 7 = .ok (.iload_n 2, 1) := by decide +kernel
theorem dX11_barOf_8 : decode cX11_barOf 8 = .ok (.invokevirtual 134, 3) := by decide +kernel
theorem dX11_barOf_11 : decode cX11_barOf 11 = .ok (.ifCond .eq 21, 3) := by decide +kernel
theorem dX11_barOf_14 : decode cX11_barOf 14 = .ok (.aload_n 0, 1) := by decide +kernel
theorem dX11_barOf_15 : decode cX11_barOf 15 = .ok (.aload_n 0, 1) := by decide +kernel
theorem dX11_barOf_16 : decode cX11_barOf 16 = .ok (.getfield 24, 3) := by decide +kernel
theorem dX11_barOf_19 : decode cX11_barOf 19 = .ok (.iload_n 1, 1) := by decide +kernel
theorem dX11_barOf_20 : decode cX11_barOf 20 = .ok (.aaload, 1) := by decide +kernel
theorem dX11_barOf_21 : decode cX11_barOf 21 = .ok (.getfield 170, 3) := by decide +kernel
theorem dX11_barOf_24 : decode cX11_barOf 24 = .ok (.iload_n 2, 1) := by decide +kernel
theorem dX11_barOf_25 : decode cX11_barOf 25 = .ok (.iaload, 1) := by decide +kernel
theorem dX11_barOf_26 : decode cX11_barOf 26 = .ok (.invokevirtual 175, 3) := by decide +kernel
theorem dX11_barOf_29 : decode cX11_barOf 29 = .ok (.goto 8, 3) := by decide +kernel
theorem dX11_barOf_32 : decode cX11_barOf 32 = .ok (.aload_n 0, 1) := by decide +kernel
theorem dX11_barOf_33 : decode cX11_barOf 33 = .ok (.iconst 1, 1) := by decide +kernel
theorem dX11_barOf_34 : decode cX11_barOf 34 = .ok (.invokevirtual 115, 3) := by decide +kernel
theorem dX11_barOf_37 : decode cX11_barOf 37 = .ok (.ireturn, 1) := by decide +kernel
theorem dX11_writtenPlaceNow_0 : decode cX11_writtenPlaceNow 0 = .ok (.aload_n 0, 1) := by decide +kernel
theorem dX11_writtenPlaceNow_1 : decode cX11_writtenPlaceNow 1 = .ok (.getfield 24, 3) := by decide +kernel
theorem dX11_writtenPlaceNow_4 : decode cX11_writtenPlaceNow 4 = .ok (.iload_n 1, 1) := by decide +kernel
theorem dX11_writtenPlaceNow_5 : decode cX11_writtenPlaceNow 5 = .ok (.aaload, 1) := by decide +kernel
theorem dX11_writtenPlaceNow_6 : decode cX11_writtenPlaceNow 6 = .ok (.iload_n 2, 1) := by decide +kernel
theorem dX11_writtenPlaceNow_7 : decode cX11_writtenPlaceNow 7 = .ok (.invokevirtual 167, 3) := by decide +kernel
theorem dX11_writtenPlaceNow_10 : decode cX11_writtenPlaceNow 10 = .ok (.ifCond .eq 16, 3) := by decide +kernel
theorem dX11_writtenPlaceNow_13 : decode cX11_writtenPlaceNow 13 = .ok (.aload_n 0, 1) := by decide +kernel
theorem dX11_writtenPlaceNow_14 : decode cX11_writtenPlaceNow 14 = .ok (.getfield 24, 3) := by decide +kernel
theorem dX11_writtenPlaceNow_17 : decode cX11_writtenPlaceNow 17 = .ok (.iload_n 1, 1) := by decide +kernel
theorem dX11_writtenPlaceNow_18 : decode cX11_writtenPlaceNow 18 = .ok (.aaload, 1) := by decide +kernel
theorem dX11_writtenPlaceNow_19 : decode cX11_writtenPlaceNow 19 = .ok (.iload_n 2, 1) := by decide +kernel
theorem dX11_writtenPlaceNow_20 : decode cX11_writtenPlaceNow 20 = .ok (.invokevirtual 178, 3) := by decide +kernel
theorem dX11_writtenPlaceNow_23 : decode cX11_writtenPlaceNow 23 = .ok (.goto 4, 3) := by decide +kernel
theorem dX11_writtenPlaceNow_26 : decode cX11_writtenPlaceNow 26 = .ok (.iconst (-1), 1) := by decide +kernel
theorem dX11_writtenPlaceNow_27 : decode cX11_writtenPlaceNow 27 = .ok (.ireturn, 1) := by decide +kernel
theorem dX11_writtenAlterNow_0 : decode cX11_writtenAlterNow 0 = .ok (.aload_n 0, 1) := by decide +kernel
theorem dX11_writtenAlterNow_1 : decode cX11_writtenAlterNow 1 = .ok (.getfield 24, 3) := by decide +kernel
theorem dX11_writtenAlterNow_4 : decode cX11_writtenAlterNow 4 = .ok (.iload_n 1, 1) := by decide +kernel
theorem dX11_writtenAlterNow_5 : decode cX11_writtenAlterNow 5 = .ok (.aaload, 1) := by decide +kernel
theorem dX11_writtenAlterNow_6 : decode cX11_writtenAlterNow 6 = .ok (.iload_n 2, 1) := by decide +kernel
theorem dX11_writtenAlterNow_7 : decode cX11_writtenAlterNow 7 = .ok (.invokevirtual 167, 3) := by decide +kernel
theorem dX11_writtenAlterNow_10 : decode cX11_writtenAlterNow 10 = .ok (.ifCond .eq 16, 3) := by decide +kernel
theorem dX11_writtenAlterNow_13 : decode cX11_writtenAlterNow 13 = .ok (.aload_n 0, 1) := by decide +kernel
theorem dX11_writtenAlterNow_14 : decode cX11_writtenAlterNow 14 = .ok (.getfield 24, 3) := by decide +kernel
theorem dX11_writtenAlterNow_17 : decode cX11_writtenAlterNow 17 = .ok (.iload_n 1, 1) := by decide +kernel
theorem dX11_writtenAlterNow_18 : decode cX11_writtenAlterNow 18 = .ok (.aaload, 1) := by decide +kernel
theorem dX11_writtenAlterNow_19 : decode cX11_writtenAlterNow 19 = .ok (.iload_n 2, 1) := by decide +kernel
theorem dX11_writtenAlterNow_20 : decode cX11_writtenAlterNow 20 = .ok (.invokevirtual 181, 3) := by decide +kernel
theorem dX11_writtenAlterNow_23 : decode cX11_writtenAlterNow 23 = .ok (.goto 5, 3) := by decide +kernel
theorem dX11_writtenAlterNow_26 : decode cX11_writtenAlterNow 26 = .ok (.bipush (-3), 2) := by decide +kernel
theorem dX11_writtenAlterNow_28 : decode cX11_writtenAlterNow 28 = .ok (.ireturn, 1) := by decide +kernel
theorem dX11_writtenPlace_0 : decode cX11_writtenPlace 0 = .ok (.aload_n 0, 1) := by decide +kernel
theorem dX11_writtenPlace_1 : decode cX11_writtenPlace 1 = .ok (.iconst 0, 1) := by decide +kernel
theorem dX11_writtenPlace_2 : decode cX11_writtenPlace 2 = .ok (.putfield 87, 3) := by decide +kernel
theorem dX11_writtenPlace_5 : decode cX11_writtenPlace 5 = .ok (.aload_n 0, 1) := by decide +kernel
theorem dX11_writtenPlace_6 : decode cX11_writtenPlace 6 = .ok (.iload_n 1, 1) := by decide +kernel
theorem dX11_writtenPlace_7 : decode cX11_writtenPlace 7 = .ok (.iload_n 2, 1) := by decide +kernel
theorem dX11_writtenPlace_8 : decode cX11_writtenPlace 8 = .ok (.invokevirtual 134, 3) := by decide +kernel
theorem dX11_writtenPlace_11 : decode cX11_writtenPlace 11 = .ok (.ifCond .eq 12, 3) := by decide +kernel
theorem dX11_writtenPlace_14 : decode cX11_writtenPlace 14 = .ok (.aload_n 0, 1) := by decide +kernel
theorem dX11_writtenPlace_15 : decode cX11_writtenPlace 15 = .ok (.iload_n 1, 1) := by decide +kernel
theorem dX11_writtenPlace_16 : decode cX11_writtenPlace 16 = .ok (.iload_n 2, 1) := by decide +kernel
theorem dX11_writtenPlace_17 : decode cX11_writtenPlace 17 = .ok (.invokevirtual 184, 3) := by decide +kernel
theorem dX11_writtenPlace_20 : decode cX11_writtenPlace 20 = .ok (.goto 8, 3) := by decide +kernel
theorem dX11_writtenPlace_23 : decode cX11_writtenPlace 23 = .ok (.aload_n 0, 1) := by decide +kernel
theorem dX11_writtenPlace_24 : decode cX11_writtenPlace 24 = .ok (.iconst 1, 1) := by decide +kernel
theorem dX11_writtenPlace_25 : decode cX11_writtenPlace 25 = .ok (.invokevirtual 115, 3) := by decide +kernel
theorem dX11_writtenPlace_28 : decode cX11_writtenPlace 28 = .ok (.ireturn, 1) := by decide +kernel
theorem dX11_writtenAlter_0 : decode cX11_writtenAlter 0 = .ok (.aload_n 0, 1) := by decide +kernel
theorem dX11_writtenAlter_1 : decode cX11_writtenAlter 1 = .ok (.iconst 0, 1) := by decide +kernel
theorem dX11_writtenAlter_2 : decode cX11_writtenAlter 2 = .ok (.putfield 87, 3) := by decide +kernel
theorem dX11_writtenAlter_5 : decode cX11_writtenAlter 5 = .ok (.aload_n 0, 1) := by decide +kernel
theorem dX11_writtenAlter_6 : decode cX11_writtenAlter 6 = .ok (.iload_n 1, 1) := by decide +kernel
theorem dX11_writtenAlter_7 : decode cX11_writtenAlter 7 = .ok (.iload_n 2, 1) := by decide +kernel
theorem dX11_writtenAlter_8 : decode cX11_writtenAlter 8 = .ok (.invokevirtual 134, 3) := by decide +kernel
theorem dX11_writtenAlter_11 : decode cX11_writtenAlter 11 = .ok (.ifCond .eq 12, 3) := by decide +kernel
theorem dX11_writtenAlter_14 : decode cX11_writtenAlter 14 = .ok (.aload_n 0, 1) := by decide +kernel
theorem dX11_writtenAlter_15 : decode cX11_writtenAlter 15 = .ok (.iload_n 1, 1) := by decide +kernel
theorem dX11_writtenAlter_16 : decode cX11_writtenAlter 16 = .ok (.iload_n 2, 1) := by decide +kernel
theorem dX11_writtenAlter_17 : decode cX11_writtenAlter 17 = .ok (.invokevirtual 187, 3) := by decide +kernel
theorem dX11_writtenAlter_20 : decode cX11_writtenAlter 20 = .ok (.goto 8, 3) := by decide +kernel
theorem dX11_writtenAlter_23 : decode cX11_writtenAlter 23 = .ok (.aload_n 0, 1) := by decide +kernel
theorem dX11_writtenAlter_24 : decode cX11_writtenAlter 24 = .ok (.iconst 1, 1) := by decide +kernel
theorem dX11_writtenAlter_25 : decode cX11_writtenAlter 25 = .ok (.invokevirtual 115, 3) := by decide +kernel
theorem dX11_writtenAlter_28 : decode cX11_writtenAlter 28 = .ok (.ireturn, 1) := by decide +kernel
theorem dX11_altered_0 : decode cX11_altered 0 = .ok (.iconst 0, 1) := by decide +kernel
theorem dX11_altered_1 : decode cX11_altered 1 = .ok (.istore_n 2, 1) := by decide +kernel
theorem dX11_altered_2 : decode cX11_altered 2 = .ok (.iload_n 2, 1) := by decide +kernel
theorem dX11_altered_3 : decode cX11_altered 3 = .ok (.iload_n 0, 1) := by decide +kernel
theorem dX11_altered_4 : decode cX11_altered 4 = .ok (.invokestatic 190, 3) := by decide +kernel
theorem dX11_altered_7 : decode cX11_altered 7 = .ok (.if_icmp .ge 39, 3) := by decide +kernel
theorem dX11_altered_10 : decode cX11_altered 10 = .ok (.getstatic 193, 3) := by decide +kernel
theorem dX11_altered_13 : decode cX11_altered 13 = .ok (.iload_n 0, 1) := by decide +kernel
theorem dX11_altered_14 : decode cX11_altered 14 = .ok (.ifCond .le 7, 3) := by decide +kernel
theorem dX11_altered_17 : decode cX11_altered 17 = .ok (.iload_n 2, 1) := by decide +kernel
theorem dX11_altered_18 : decode cX11_altered 18 = .ok (.goto 7, 3) := by decide +kernel
theorem dX11_altered_21 : decode cX11_altered 21 = .ok (.bipush 6, 2) := by decide +kernel
theorem dX11_altered_23 : decode cX11_altered 23 = .ok (.iload_n 2, 1) := by decide +kernel
theorem dX11_altered_24 : decode cX11_altered 24 = .ok (.isub, 1) := by decide +kernel
theorem dX11_altered_25 : decode cX11_altered 25 = .ok (.iaload, 1) := by decide +kernel
theorem dX11_altered_26 : decode cX11_altered 26 = .ok (.iload_n 1, 1) := by decide +kernel
theorem dX11_altered_27 : decode cX11_altered 27 = .ok (.if_icmp .ne 13, 3) := by decide +kernel
theorem dX11_altered_30 : decode cX11_altered 30 = .ok (.iload_n 0, 1) := by decide +kernel
theorem dX11_altered_31 : decode cX11_altered 31 = .ok (.ifCond .le 7, 3) := by decide +kernel
theorem dX11_altered_34 : decode cX11_altered 34 = .ok (.iconst 1, 1) := by decide +kernel
theorem dX11_altered_35 : decode cX11_altered 35 = .ok (.goto 4, 3) := by decide +kernel
theorem dX11_altered_38 : decode cX11_altered 38 = .ok (.iconst (-1), 1) := by decide +kernel
theorem dX11_altered_39 : decode cX11_altered 39 = .ok (.ireturn, 1) := by decide +kernel
theorem dX11_altered_40 : decode cX11_altered 40 = .ok (.iinc 2 1, 3) := by decide +kernel
theorem dX11_altered_43 : decode cX11_altered 43 = .ok (.goto (-41), 3) := by decide +kernel
theorem dX11_altered_46 : decode cX11_altered 46 = .ok (.iconst 0, 1) := by decide +kernel
theorem dX11_altered_47 : decode cX11_altered 47 = .ok (.ireturn, 1) := by decide +kernel
theorem dX11_alterIn_0 : decode cX11_alterIn 0 = .ok (.aload_n 0, 1) := by decide +kernel
theorem dX11_alterIn_1 : decode cX11_alterIn 1 = .ok (.iconst 0, 1) := by decide +kernel
theorem dX11_alterIn_2 : decode cX11_alterIn 2 = .ok (.putfield 87, 3) := by decide +kernel
theorem dX11_alterIn_5 : decode cX11_alterIn 5 = .ok (.iload_n 1, 1) := by decide +kernel
theorem dX11_alterIn_6 : decode cX11_alterIn 6 = .ok (.bipush (-7), 2) := by decide +kernel
theorem dX11_alterIn_8 : decode cX11_alterIn 8 = .ok (.bipush 7, 2) := by decide +kernel
theorem dX11_alterIn_10 : decode cX11_alterIn 10 = .ok (.invokestatic 91, 3) := by decide +kernel
theorem dX11_alterIn_13 : decode cX11_alterIn 13 = .ok (.ifCond .eq 21, 3) := by decide +kernel
theorem dX11_alterIn_16 : decode cX11_alterIn 16 = .ok (.iload_n 2, 1) := by decide +kernel
theorem dX11_alterIn_17 : decode cX11_alterIn 17 = .ok (.iconst 0, 1) := by decide +kernel
theorem dX11_alterIn_18 : decode cX11_alterIn 18 = .ok (.bipush 6, 2) := by decide +kernel
theorem dX11_alterIn_20 : decode cX11_alterIn 20 = .ok (.invokestatic 91, 3) := by decide +kernel
theorem dX11_alterIn_23 : decode cX11_alterIn 23 = .ok (.ifCond .eq 11, 3) := by decide +kernel
theorem dX11_alterIn_26 : decode cX11_alterIn 26 = .ok (.iload_n 1, 1) := by decide +kernel
theorem dX11_alterIn_27 : decode cX11_alterIn 27 = .ok (.iload_n 2, 1) := by decide +kernel
theorem dX11_alterIn_28 : decode cX11_alterIn 28 = .ok (.invokestatic 196, 3) := by decide +kernel
theorem dX11_alterIn_31 : decode cX11_alterIn 31 = .ok (.goto 8, 3) := by decide +kernel
theorem dX11_alterIn_34 : decode cX11_alterIn 34 = .ok (.aload_n 0, 1) := by decide +kernel
theorem dX11_alterIn_35 : decode cX11_alterIn 35 = .ok (.iconst 1, 1) := by decide +kernel
theorem dX11_alterIn_36 : decode cX11_alterIn 36 = .ok (.invokevirtual 115, 3) := by decide +kernel
theorem dX11_alterIn_39 : decode cX11_alterIn 39 = .ok (.ireturn, 1) := by decide +kernel
theorem dX11_keyWritten_0 : decode cX11_keyWritten 0 = .ok (.aload_n 0, 1) := by decide +kernel
theorem dX11_keyWritten_1 : decode cX11_keyWritten 1 = .ok (.getfield 34, 3) := by decide +kernel
theorem dX11_keyWritten_4 : decode cX11_keyWritten 4 = .ok (.iload_n 2, 1) := by decide +kernel
theorem dX11_keyWritten_5 : decode cX11_keyWritten 5 = .ok (.iaload, 1) := by decide +kernel
theorem dX11_keyWritten_6 : decode cX11_keyWritten 6 = .ok (.aload_n 0, 1) := by decide +kernel
theorem dX11_keyWritten_7 : decode cX11_keyWritten 7 = .ok (.getfield 24, 3) := by decide +kernel
theorem dX11_keyWritten_10 : decode cX11_keyWritten 10 = .ok (.iload_n 1, 1) := by decide +kernel
theorem dX11_keyWritten_11 : decode cX11_keyWritten 11 = .ok (.aaload, 1) := by decide +kernel
theorem dX11_keyWritten_12 : decode cX11_keyWritten 12 = .ok (.getfield 161, 3) := by decide +kernel
theorem dX11_keyWritten_15 : decode cX11_keyWritten 15 = .ok (.iadd, 1) := by decide +kernel
theorem dX11_keyWritten_16 : decode cX11_keyWritten 16 = .ok (.istore_n 3, 1) := by decide +kernel
theorem dX11_keyWritten_17 : decode cX11_keyWritten 17 = .ok (.iload_n 3, 1) := by decide +kernel
theorem dX11_keyWritten_18 : decode cX11_keyWritten 18 = .ok (.bipush 7, 2) := by decide +kernel
theorem dX11_keyWritten_20 : decode cX11_keyWritten 20 = .ok (.if_icmp .le 10, 3) := by decide +kernel
theorem dX11_keyWritten_23 : decode cX11_keyWritten 23 = .ok (.iload_n 3, 1) := by decide +kernel
theorem dX11_keyWritten_24 : decode cX11_keyWritten 24 = .ok (.bipush 12, 2) := by decide +kernel
theorem dX11_keyWritten_26 : decode cX11_keyWritten 26 = .ok (.isub, 1) := by decide +kernel
theorem dX11_keyWritten_27 : decode cX11_keyWritten 27 = .ok (.goto 17, 3) := by decide +kernel
theorem dX11_keyWritten_30 : decode cX11_keyWritten 30 = .ok (.iload_n 3, 1) := by decide +kernel
theorem dX11_keyWritten_31 : decode cX11_keyWritten 31 = .ok (.bipush (-7), 2) := by decide +kernel
theorem dX11_keyWritten_33 : decode cX11_keyWritten 33 = .ok (.if_icmp .ge 10, 3) := by decide +kernel
theorem dX11_keyWritten_36 : decode cX11_keyWritten 36 = .ok (.iload_n 3, 1) := by decide +kernel
theorem dX11_keyWritten_37 : decode cX11_keyWritten 37 = .ok (.bipush 12, 2) := by decide +kernel
theorem dX11_keyWritten_39 : decode cX11_keyWritten 39 = .ok (.iadd, 1) := by decide +kernel
theorem dX11_keyWritten_40 : decode cX11_keyWritten 40 = .ok (.goto 4, 3) := by decide +kernel
theorem dX11_keyWritten_43 : decode cX11_keyWritten 43 = .ok (.iload_n 3, 1) := by decide +kernel
theorem dX11_keyWritten_44 : decode cX11_keyWritten 44 = .ok (.ireturn, 1) := by decide +kernel
theorem dX11_writtenKey_0 : decode cX11_writtenKey 0 = .ok (.aload_n 0, 1) := by decide +kernel
theorem dX11_writtenKey_1 : decode cX11_writtenKey 1 = .ok (.iconst 0, 1) := by decide +kernel
theorem dX11_writtenKey_2 : decode cX11_writtenKey 2 = .ok (.putfield 87, 3) := by decide +kernel
theorem dX11_writtenKey_5 : decode cX11_writtenKey 5 = .ok (.iload_n 1, 1) := by decide +kernel
theorem dX11_writtenKey_6 : decode cX11_writtenKey 6 = .ok (.invokestatic 95, 3) := by decide +kernel
theorem dX11_writtenKey_9 : decode cX11_writtenKey 9 = .ok (.ifCond .eq 19, 3) := by decide +kernel
theorem dX11_writtenKey_12 : decode cX11_writtenKey 12 = .ok (.iload_n 2, 1) := by decide +kernel
theorem dX11_writtenKey_13 : decode cX11_writtenKey 13 = .ok (.invokestatic 149, 3) := by decide +kernel
theorem dX11_writtenKey_16 : decode cX11_writtenKey 16 = .ok (.ifCond .eq 12, 3) := by decide +kernel
theorem dX11_writtenKey_19 : decode cX11_writtenKey 19 = .ok (.aload_n 0, 1) := by decide +kernel
theorem dX11_writtenKey_20 : decode cX11_writtenKey 20 = .ok (.iload_n 1, 1) := by decide +kernel
theorem dX11_writtenKey_21 : decode cX11_writtenKey 21 = .ok (.iload_n 2, 1) := by decide +kernel
theorem dX11_writtenKey_22 : decode cX11_writtenKey 22 = .ok (.invokevirtual 199, 3) := by decide +kernel
theorem dX11_writtenKey_25 : decode cX11_writtenKey 25 = .ok (.goto 8, 3) := by decide +kernel
theorem dX11_writtenKey_28 : decode cX11_writtenKey 28 = .ok (.aload_n 0, 1) := by decide +kernel
theorem dX11_writtenKey_29 : decode cX11_writtenKey 29 = .ok (.iconst 1, 1) := by decide +kernel
theorem dX11_writtenKey_30 : decode cX11_writtenKey 30 = .ok (.invokevirtual 115, 3) := by decide +kernel
theorem dX11_writtenKey_33 : decode cX11_writtenKey 33 = .ok (.ireturn, 1) := by decide +kernel
theorem dX11_beginOfBar_0 : decode cX11_beginOfBar 0 = .ok (.aload_n 0, 1) := by decide +kernel
theorem dX11_beginOfBar_1 : decode cX11_beginOfBar 1 = .ok (.iconst 0, 1) := by decide +kernel
theorem dX11_beginOfBar_2 : decode cX11_beginOfBar 2 = .ok (.putfield 87, 3) := by decide +kernel
theorem dX11_beginOfBar_5 : decode cX11_beginOfBar 5 = .ok (.iload_n 1, 1) := by decide +kernel
theorem dX11_beginOfBar_6 : decode cX11_beginOfBar 6 = .ok (.invokestatic 149, 3) := by decide +kernel
theorem dX11_beginOfBar_9 : decode cX11_beginOfBar 9 = .ok (.ifCond .eq 11, 3) := by decide +kernel
theorem dX11_beginOfBar_12 : decode cX11_beginOfBar 12 = .ok (.aload_n 0, 1) := by decide +kernel
theorem dX11_beginOfBar_13 : decode cX11_beginOfBar 13 = .ok (.iload_n 1, 1) := by decide +kernel
theorem dX11_beginOfBar_14 : decode cX11_beginOfBar 14 = .ok (.invokevirtual 112, 3) := by decide +kernel
theorem dX11_beginOfBar_17 : decode cX11_beginOfBar 17 = .ok (.goto 8, 3) := by decide +kernel
theorem dX11_beginOfBar_20 : decode cX11_beginOfBar 20 = .ok (.aload_n 0, 1) := by decide +kernel
theorem dX11_beginOfBar_21 : decode cX11_beginOfBar 21 = .ok (.iconst 1, 1) := by decide +kernel
theorem dX11_beginOfBar_22 : decode cX11_beginOfBar 22 = .ok (.invokevirtual 115, 3) := by decide +kernel
theorem dX11_beginOfBar_25 : decode cX11_beginOfBar 25 = .ok (.ireturn, 1) := by decide +kernel
theorem dX11_lengthOfBar_0 : decode cX11_lengthOfBar 0 = .ok (.aload_n 0, 1) := by decide +kernel
theorem dX11_lengthOfBar_1 : decode cX11_lengthOfBar 1 = .ok (.iconst 0, 1) := by decide +kernel
theorem dX11_lengthOfBar_2 : decode cX11_lengthOfBar 2 = .ok (.putfield 87, 3) := by decide +kernel
theorem dX11_lengthOfBar_5 : decode cX11_lengthOfBar 5 = .ok (.iload_n 1, 1) := by decide +kernel
theorem dX11_lengthOfBar_6 : decode cX11_lengthOfBar 6 = .ok (.invokestatic 149, 3) := by decide +kernel
theorem dX11_lengthOfBar_9 : decode cX11_lengthOfBar 9 = .ok (.ifCond .eq 11, 3) := by decide +kernel
theorem dX11_lengthOfBar_12 : decode cX11_lengthOfBar 12 = .ok (.aload_n 0, 1) := by decide +kernel
theorem dX11_lengthOfBar_13 : decode cX11_lengthOfBar 13 = .ok (.iload_n 1, 1) := by decide +kernel
theorem dX11_lengthOfBar_14 : decode cX11_lengthOfBar 14 = .ok (.invokevirtual 105, 3) := by decide +kernel
theorem dX11_lengthOfBar_17 : decode cX11_lengthOfBar 17 = .ok (.goto 8, 3) := by decide +kernel
theorem dX11_lengthOfBar_20 : decode cX11_lengthOfBar 20 = .ok (.aload_n 0, 1) := by decide +kernel
theorem dX11_lengthOfBar_21 : decode cX11_lengthOfBar 21 = .ok (.iconst 1, 1) := by decide +kernel
theorem dX11_lengthOfBar_22 : decode cX11_lengthOfBar 22 = .ok (.invokevirtual 115, 3) := by decide +kernel
theorem dX11_lengthOfBar_25 : decode cX11_lengthOfBar 25 = .ok (.ireturn, 1) := by decide +kernel
theorem dX11_lay_0 : decode cX11_lay 0 = .ok (.aload_n 0, 1) := by decide +kernel
theorem dX11_lay_1 : decode cX11_lay 1 = .ok (.getfield 24, 3) := by decide +kernel
theorem dX11_lay_4 : decode cX11_lay 4 = .ok (.iload_n 1, 1) := by decide +kernel
theorem dX11_lay_5 : decode cX11_lay 5 = .ok (.aaload, 1) := by decide +kernel
theorem dX11_lay_6 : decode cX11_lay 6 = .ok (.astore_n 3, 1) := by decide +kernel
theorem dX11_lay_7 : decode cX11_lay 7 = .ok (.aload_n 0, 1) := by decide +kernel
theorem dX11_lay_8 : decode cX11_lay 8 = .ok (.iload_n 2, 1) := by decide +kernel
theorem dX11_lay_9 : decode cX11_lay 9 = .ok (.invokevirtual 112, 3) := by decide +kernel
theorem dX11_lay_12 : decode cX11_lay 12 = .ok (.istore 4, 2) := by decide +kernel
theorem dX11_lay_14 : decode cX11_lay 14 = .ok (.iload 4, 2) := by decide +kernel
theorem dX11_lay_16 : decode cX11_lay 16 = .ok (.aload_n 0, 1) := by decide +kernel
theorem dX11_lay_17 : decode cX11_lay 17 = .ok (.iload_n 2, 1) := by decide +kernel
theorem dX11_lay_18 : decode cX11_lay 18 = .ok (.invokevirtual 105, 3) := by decide +kernel
theorem dX11_lay_21 : decode cX11_lay 21 = .ok (.iadd, 1) := by decide +kernel
theorem dX11_lay_22 : decode cX11_lay 22 = .ok (.istore 5, 2) := by decide +kernel
theorem dX11_lay_24 : decode cX11_lay 24 = .ok (.aload_n 0, 1) := by decide +kernel
theorem dX11_lay_25 : decode cX11_lay 25 = .ok (.iconst 0, 1) := by decide +kernel
theorem dX11_lay_26 : decode cX11_lay 26 = .ok (.putfield 202, 3) := by decide +kernel
theorem dX11_lay_29 : decode cX11_lay 29 = .ok (.iconst 0, 1) := by decide +kernel
theorem dX11_lay_30 : decode cX11_lay 30 = .ok (.istore 6, 2) := by decide +kernel
theorem dX11_lay_32 : decode cX11_lay 32 = .ok (.iload 6, 2) := by decide +kernel
theorem dX11_lay_34 : decode cX11_lay 34 = .ok (.aload_n 3, 1) := by decide +kernel
theorem dX11_lay_35 : decode cX11_lay 35 = .ok (.getfield 99, 3) := by decide +kernel
theorem dX11_lay_38 : decode cX11_lay 38 = .ok (.if_icmp .ge 209, 3) := by decide +kernel
theorem dX11_lay_41 : decode cX11_lay 41 = .ok (.aload_n 3, 1) := by decide +kernel
theorem dX11_lay_42 : decode cX11_lay 42 = .ok (.getfield 170, 3) := by decide +kernel
theorem dX11_lay_45 : decode cX11_lay 45 = .ok (.iload 6, 2) := by decide +kernel
theorem dX11_lay_47 : decode cX11_lay 47 = .ok (.iaload, 1) := by decide +kernel
theorem dX11_lay_48 : decode cX11_lay 48 = .ok (.iload 5, 2) := by decide +kernel
theorem dX11_lay_50 : decode cX11_lay 50 = .ok (.if_icmp .ge 197, 3) := by decide +kernel
theorem dX11_lay_53 : decode cX11_lay 53 = .ok (.iload 4, 2) := by decide +kernel
theorem dX11_lay_55 : decode cX11_lay 55 = .ok (.aload_n 3, 1) := by decide +kernel
theorem dX11_lay_56 : decode cX11_lay 56 = .ok (.getfield 170, 3) := by decide +kernel
theorem dX11_lay_59 : decode cX11_lay 59 = .ok (.iload 6, 2) := by decide +kernel
theorem dX11_lay_61 : decode cX11_lay 61 = .ok (.iaload, 1) := by decide +kernel
theorem dX11_lay_62 : decode cX11_lay 62 = .ok (.invokestatic 205, 3) := by decide +kernel
theorem dX11_lay_65 : decode cX11_lay 65 = .ok (.istore 7, 2) := by decide +kernel
theorem dX11_lay_67 : decode cX11_lay 67 = .ok (.iload 5, 2) := by decide +kernel
theorem dX11_lay_69 : decode cX11_lay 69 = .ok (.aload_n 3, 1) := by decide +kernel
theorem dX11_lay_70 : decode cX11_lay 70 = .ok (.iload 6, 2) := by decide +kernel
theorem dX11_lay_72 : decode cX11_lay 72 = .ok (.invokevirtual 208, 3) := by decide +kernel
theorem dX11_lay_75 : decode cX11_lay 75 = .ok (.invokestatic 211, 3) := by decide +kernel
theorem dX11_lay_78 : decode cX11_lay 78 = .ok (.iload 7, 2) := by decide +kernel
theorem dX11_lay_80 : decode cX11_lay 80 = .ok (.isub, 1) := by decide +kernel
theorem dX11_lay_81 : decode cX11_lay 81 = .ok (.istore 8, 2) := by decide +kernel
theorem dX11_lay_83 : decode cX11_lay 83 = .ok (.iload 8, 2) := by decide +kernel
theorem dX11_lay_85 : decode cX11_lay 85 = .ok (.ifCond .le 156, 3) := by decide +kernel
theorem dX11_lay_88 : decode cX11_lay 88 = .ok (.iload 8, 2) := by decide +kernel
theorem dX11_lay_90 : decode cX11_lay 90 = .ok (.istore 9, 2) := by decide +kernel
theorem dX11_lay_92 : decode cX11_lay 92 = .ok (.getstatic 102, 3) := by decide +kernel
theorem dX11_lay_95 : decode cX11_lay 95 = .ok (.arraylength, 1) := by decide +kernel
theorem dX11_lay_96 : decode cX11_lay 96 = .ok (.iconst 1, 1) := by decide +kernel
theorem dX11_lay_97 : decode cX11_lay 97 = .ok (.isub, 1) := by decide +kernel
theorem dX11_lay_98 : decode cX11_lay 98 = .ok (.istore 10, 2) := by decide +kernel
theorem dX11_lay_100 : decode cX11_lay 100 = .ok (.iload 10, 2) := by decide +kernel
theorem dX11_lay_102 : decode cX11_lay 102 = .ok (.ifCond .lt 34, 3) := by decide +kernel
theorem dX11_lay_105 : decode cX11_lay 105 = .ok (.iload 8, 2) := by decide +kernel
theorem dX11_lay_107 : decode cX11_lay 107 = .ok (.iconst 4, 1) := by decide +kernel
theorem dX11_lay_108 : decode cX11_lay 108 = .ok (.if_icmp .lt 28, 3) := by decide +kernel
theorem dX11_lay_111 : decode cX11_lay 111 = .ok (.getstatic 102, 3) := by decide +kernel
theorem dX11_lay_114 : decode cX11_lay 114 = .ok (.iload 10, 2) := by decide +kernel
theorem dX11_lay_116 : decode cX11_lay 116 = .ok (.iaload, 1) := by decide +kernel
theorem dX11_lay_117 : decode cX11_lay 117 = .ok (.iload 8, 2) := by decide +kernel
theorem dX11_lay_119 : decode cX11_lay 119 = .ok (.if_icmp .gt 11, 3) := by decide +kernel
theorem dX11_lay_122 : decode cX11_lay 122 = .ok (.getstatic 102, 3) := by decide +kernel
theorem dX11_lay_125 : decode cX11_lay 125 = .ok (.iload 10, 2) := by decide +kernel
theorem dX11_lay_127 : decode cX11_lay 127 = .ok (.iaload, 1) := by decide +kernel
theorem dX11_lay_128 : decode cX11_lay 128 = .ok (.istore 9, 2) := by decide +kernel
theorem dX11_lay_130 : decode cX11_lay 130 = .ok (.iinc 10 (-1), 3) := by decide +kernel
theorem dX11_lay_133 : decode cX11_lay 133 = .ok (.goto (-33), 3) := by decide +kernel
theorem dX11_lay_136 : decode cX11_lay 136 = .ok (.iload 8, 2) := by decide +kernel
theorem dX11_lay_138 : decode cX11_lay 138 = .ok (.iload 9, 2) := by decide +kernel
theorem dX11_lay_140 : decode cX11_lay 140 = .ok (.isub, 1) := by decide +kernel
theorem dX11_lay_141 : decode cX11_lay 141 = .ok (.istore 8, 2) := by decide +kernel
theorem dX11_lay_143 : decode cX11_lay 143 = .ok (.aload_n 0, 1) := by decide +kernel
theorem dX11_lay_144 : decode cX11_lay 144 = .ok (.getfield 37, 3) := by decide +kernel
theorem dX11_lay_147 : decode cX11_lay 147 = .ok (.aload_n 0, 1) := by decide +kernel
theorem dX11_lay_148 : decode cX11_lay 148 = .ok (.getfield 202, 3) := by decide +kernel
theorem dX11_lay_151 : decode cX11_lay 151 = .ok (.iload 6, 2) := by decide +kernel
theorem dX11_lay_153 : decode cX11_lay 153 = .ok (.iastore, 1) := by decide +kernel
theorem dX11_lay_154 : decode cX11_lay 154 = .ok (.aload_n 0, 1) := by decide +kernel
theorem dX11_lay_155 : decode cX11_lay 155 = .ok (.getfield 40, 3) := by decide +kernel
theorem dX11_lay_158 : decode cX11_lay 158 = .ok (.aload_n 0, 1) := by decide +kernel
theorem dX11_lay_159 : decode cX11_lay 159 = .ok (.getfield 202, 3) := by decide +kernel
theorem dX11_lay_162 : decode cX11_lay 162 = .ok (.iload 9, 2) := by decide +kernel
theorem dX11_lay_164 : decode cX11_lay 164 = .ok (.iastore, 1) := by decide +kernel
theorem dX11_lay_165 : decode cX11_lay 165 = .ok (.aload_n 0, 1) := by decide +kernel
theorem dX11_lay_166 : decode cX11_lay 166 = .ok (.getfield 43, 3) := by decide +kernel
theorem dX11_lay_169 : decode cX11_lay 169 = .ok (.aload_n 0, 1) := by decide +kernel
theorem dX11_lay_170 : decode cX11_lay 170 = .ok (.getfield 202, 3) := by decide +kernel
theorem dX11_lay_173 : decode cX11_lay 173 = .ok (.iload 7, 2) := by decide +kernel
theorem dX11_lay_175 : decode cX11_lay 175 = .ok (.iastore, 1) := by decide +kernel
theorem dX11_lay_176 : decode cX11_lay 176 = .ok (.aload_n 0, 1) := by decide +kernel
theorem dX11_lay_177 : decode cX11_lay 177 = .ok (.getfield 46, 3) := by decide +kernel
theorem dX11_lay_180 : decode cX11_lay 180 = .ok (.aload_n 0, 1) := by decide +kernel
theorem dX11_lay_181 : decode cX11_lay 181 = .ok (.getfield 202, 3) := by decide +kernel
theorem dX11_lay_184 : decode cX11_lay 184 = .ok (.aload_n 3, 1) := by decide +kernel
theorem dX11_lay_185 : decode cX11_lay 185 = .ok (.iload 6, 2) := by decide +kernel
theorem dX11_lay_187 : decode cX11_lay 187 = .ok (.invokevirtual 137, 3) := by decide +kernel
theorem dX11_lay_190 : decode cX11_lay 190 = .ok (.ifCond .eq 29, 3) := by decide +kernel
theorem dX11_lay_193 : decode cX11_lay 193 = .ok (.iload 8, 2) := by decide +kernel
theorem dX11_lay_195 : decode cX11_lay 195 = .ok (.ifCond .gt 20, 3) := by decide +kernel
theorem dX11_lay_198 : decode cX11_lay 198 = .ok (.aload_n 3, 1) := by decide +kernel
theorem dX11_lay_199 : decode cX11_lay 199 = .ok (.iload 6, 2) := by decide +kernel
theorem dX11_lay_201 : decode cX11_lay 201 = .ok (.invokevirtual 208, 3) := by decide +kernel
theorem dX11_lay_204 : decode cX11_lay 204 = .ok (.iload 5, 2) := by decide +kernel
theorem dX11_lay_206 : decode cX11_lay 206 = .ok (.if_icmp .le 13, 3) := by decide +kernel
theorem dX11_lay_209 : decode cX11_lay 209 = .ok (.iload_n 2, 1) := by decide +kernel
theorem dX11_lay_210 : decode cX11_lay 210 = .ok (.bipush 23, 2) := by decide +kernel
theorem dX11_lay_212 : decode cX11_lay 212 = .ok (.if_icmp .ge 7, 3) := by decide +kernel
theorem dX11_lay_215 : decode cX11_lay 215 = .ok (.iconst 1, 1) := by decide +kernel
theorem dX11_lay_216 : decode cX11_lay 216 = .ok (.goto 4, 3) := by decide +kernel
theorem dX11_lay_219 : decode cX11_lay 219 = .ok (.iconst 0, 1) := by decide +kernel
theorem dX11_lay_220 : decode cX11_lay 220 = .ok (.bastore, 1) := by decide +kernel
theorem dX11_lay_221 : decode cX11_lay 221 = .ok (.iload 7, 2) := by decide +kernel
theorem dX11_lay_223 : decode cX11_lay 223 = .ok (.iload 9, 2) := by decide +kernel
theorem dX11_lay_225 : decode cX11_lay 225 = .ok (.iadd, 1) := by decide +kernel
theorem dX11_lay_226 : decode cX11_lay 226 = .ok (.istore 7, 2) := by decide +kernel
theorem dX11_lay_228 : decode cX11_lay 228 = .ok (.aload_n 0, 1) := by decide +kernel
theorem dX11_lay_229 : decode cX11_lay 229 = .ok (.dup, 1) := by decide +kernel
theorem dX11_lay_230 : decode cX11_lay 230 = .ok (.getfield 202, 3) := by decide +kernel
theorem dX11_lay_233 : decode cX11_lay 233 = .ok (.iconst 1, 1) := by decide +kernel
theorem dX11_lay_234 : decode cX11_lay 234 = .ok (.iadd, 1) := by decide +kernel
theorem dX11_lay_235 : decode cX11_lay 235 = .ok (.putfield 202, 3) := by decide +kernel
theorem dX11_lay_238 : decode cX11_lay 238 = .ok (.goto (-155), 3) := by decide +kernel
theorem dX11_lay_241 : decode cX11_lay 241 = .ok (.iinc 6 1, 3) := by decide +kernel
theorem dX11_lay_244 : decode cX11_lay 244 = .ok (.goto (-212), 3) := by decide +kernel
theorem dX11_lay_247 : decode cX11_lay 247 = .ok (.aload_n 0, 1) := by decide +kernel
theorem dX11_lay_248 : decode cX11_lay 248 = .ok (.iload_n 1, 1) := by decide +kernel
theorem dX11_lay_249 : decode cX11_lay 249 = .ok (.iload_n 2, 1) := by decide +kernel
theorem dX11_lay_250 : decode cX11_lay 250 = .ok (.iconst 0, 1) := by decide +kernel
theorem dX11_lay_251 : decode cX11_lay 251 = .ok (.aload_n 0, 1) := by decide +kernel
theorem dX11_lay_252 : decode cX11_lay 252 = .ok (.getfield 50, 3) := by decide +kernel
theorem dX11_lay_255 : decode cX11_lay 255 = .ok (.invokevirtual 214, 3) := by decide +kernel
theorem dX11_lay_258 : decode cX11_lay 258 = .ok (.aload_n 0, 1) := by decide +kernel
theorem dX11_lay_259 : decode cX11_lay 259 = .ok (.iload_n 1, 1) := by decide +kernel
theorem dX11_lay_260 : decode cX11_lay 260 = .ok (.iload_n 2, 1) := by decide +kernel
theorem dX11_lay_261 : decode cX11_lay 261 = .ok (.iconst 1, 1) := by decide +kernel
theorem dX11_lay_262 : decode cX11_lay 262 = .ok (.aload_n 0, 1) := by decide +kernel
theorem dX11_lay_263 : decode cX11_lay 263 = .ok (.getfield 53, 3) := by decide +kernel
theorem dX11_lay_266 : decode cX11_lay 266 = .ok (.invokevirtual 214, 3) := by decide +kernel
theorem dX11_lay_269 : decode cX11_lay 269 = .ok (.aload_n 0, 1) := by decide +kernel
theorem dX11_lay_270 : decode cX11_lay 270 = .ok (.iload_n 1, 1) := by decide +kernel
theorem dX11_lay_271 : decode cX11_lay 271 = .ok (.iload_n 2, 1) := by decide +kernel
theorem dX11_lay_272 : decode cX11_lay 272 = .ok (.iload 4, 2) := by decide +kernel
theorem dX11_lay_274 : decode cX11_lay 274 = .ok (.invokevirtual 218, 3) := by decide +kernel
theorem dX11_lay_277 : decode cX11_lay 277 = .ok (.return_, 1) := by decide +kernel
theorem dX11_show_0 : decode cX11_show 0 = .ok (.aload_n 0, 1) := by decide +kernel
theorem dX11_show_1 : decode cX11_show 1 = .ok (.getfield 24, 3) := by decide +kernel
theorem dX11_show_4 : decode cX11_show 4 = .ok (.iload_n 1, 1) := by decide +kernel
theorem dX11_show_5 : decode cX11_show 5 = .ok (.aaload, 1) := by decide +kernel
theorem dX11_show_6 : decode cX11_show 6 = .ok (.astore 5, 2) := by decide +kernel
theorem dX11_show_8 : decode cX11_show 8 = .ok (.iload_n 3, 1) := by decide +kernel
theorem dX11_show_9 : decode cX11_show 9 = .ok (.ifCond .eq 12, 3) := by decide +kernel
theorem dX11_show_12 : decode cX11_show 12 = .ok (.aload_n 0, 1) := by decide +kernel
theorem dX11_show_13 : decode cX11_show 13 = .ok (.iload_n 1, 1) := by decide +kernel
theorem dX11_show_14 : decode cX11_show 14 = .ok (.iload_n 2, 1) := by decide +kernel
theorem dX11_show_15 : decode cX11_show 15 = .ok (.invokevirtual 199, 3) := by decide +kernel
theorem dX11_show_18 : decode cX11_show 18 = .ok (.goto 9, 3) := by decide +kernel
theorem dX11_show_21 : decode cX11_show 21 = .ok (.aload_n 0, 1) := by decide +kernel
theorem dX11_show_22 : decode cX11_show 22 = .ok (.getfield 34, 3) := by decide +kernel
theorem dX11_show_25 : decode cX11_show 25 = .ok (.iload_n 2, 1) := by decide +kernel
theorem dX11_show_26 : decode cX11_show 26 = .ok (.iaload, 1) := by decide +kernel
theorem dX11_show_27 : decode cX11_show 27 = .ok (.istore 6, 2) := by decide +kernel
theorem dX11_show_29 : decode cX11_show 29 = .ok (.iconst 0, 1) := by decide +kernel
theorem dX11_show_30 : decode cX11_show 30 = .ok (.istore 7, 2) := by decide +kernel
theorem dX11_show_32 : decode cX11_show 32 = .ok (.iload 7, 2) := by decide +kernel
theorem dX11_show_34 : decode cX11_show 34 = .ok (.bipush 62, 2) := by decide +kernel
theorem dX11_show_36 : decode cX11_show 36 = .ok (.if_icmp .gt 26, 3) := by decide +kernel
theorem dX11_show_39 : decode cX11_show 39 = .ok (.aload_n 0, 1) := by decide +kernel
theorem dX11_show_40 : decode cX11_show 40 = .ok (.getfield 59, 3) := by decide +kernel
theorem dX11_show_43 : decode cX11_show 43 = .ok (.iload 7, 2) := by decide +kernel
theorem dX11_show_45 : decode cX11_show 45 = .ok (.iload 6, 2) := by decide +kernel
theorem dX11_show_47 : decode cX11_show 47 = .ok (.iload 7, 2) := by decide +kernel
theorem dX11_show_49 : decode cX11_show 49 = .ok (.bipush 7, 2) := by decide +kernel
theorem dX11_show_51 : decode cX11_show 51 = .ok (.irem, 1) := by decide +kernel
theorem dX11_show_52 : decode cX11_show 52 = .ok (.invokestatic 196, 3) := by decide +kernel
theorem dX11_show_55 : decode cX11_show 55 = .ok (.iastore, 1) := by decide +kernel
theorem dX11_show_56 : decode cX11_show 56 = .ok (.iinc 7 1, 3) := by decide +kernel
theorem dX11_show_59 : decode cX11_show 59 = .ok (.goto (-27), 3) := by decide +kernel
theorem dX11_show_62 : decode cX11_show 62 = .ok (.iconst 0, 1) := by decide +kernel
theorem dX11_show_63 : decode cX11_show 63 = .ok (.istore 7, 2) := by decide +kernel
theorem dX11_show_65 : decode cX11_show 65 = .ok (.iload 7, 2) := by decide +kernel
theorem dX11_show_67 : decode cX11_show 67 = .ok (.aload_n 0, 1) := by decide +kernel
theorem dX11_show_68 : decode cX11_show 68 = .ok (.getfield 202, 3) := by decide +kernel
theorem dX11_show_71 : decode cX11_show 71 = .ok (.if_icmp .ge 152, 3) := by decide +kernel
theorem dX11_show_74 : decode cX11_show 74 = .ok (.aload_n 0, 1) := by decide +kernel
theorem dX11_show_75 : decode cX11_show 75 = .ok (.getfield 37, 3) := by decide +kernel
theorem dX11_show_78 : decode cX11_show 78 = .ok (.iload 7, 2) := by decide +kernel
theorem dX11_show_80 : decode cX11_show 80 = .ok (.iaload, 1) := by decide +kernel
theorem dX11_show_81 : decode cX11_show 81 = .ok (.istore 8, 2) := by decide +kernel
theorem dX11_show_83 : decode cX11_show 83 = .ok (.aload 4, 2) := by decide +kernel
theorem dX11_show_85 : decode cX11_show 85 = .ok (.iload 7, 2) := by decide +kernel
theorem dX11_show_87 : decode cX11_show 87 = .ok (.bipush (-3), 2) := by decide +kernel
theorem dX11_show_89 : decode cX11_show 89 = .ok (.iastore, 1) := by decide +kernel
theorem dX11_show_90 : decode cX11_show 90 = .ok (.aload_n 0, 1) := by decide +kernel
theorem dX11_show_91 : decode cX11_show 91 = .ok (.getfield 43, 3) := by decide +kernel
theorem dX11_show_94 : decode cX11_show 94 = .ok (.iload 7, 2) := by decide +kernel
theorem dX11_show_96 : decode cX11_show 96 = .ok (.iaload, 1) := by decide +kernel
theorem dX11_show_97 : decode cX11_show 97 = .ok (.aload 5, 2) := by decide +kernel
theorem dX11_show_99 : decode cX11_show 99 = .ok (.getfield 170, 3) := by decide +kernel
theorem dX11_show_102 : decode cX11_show 102 = .ok (.iload 8, 2) := by decide +kernel
theorem dX11_show_104 : decode cX11_show 104 = .ok (.iaload, 1) := by decide +kernel
theorem dX11_show_105 : decode cX11_show 105 = .ok (.if_icmp .ne 112, 3) := by decide +kernel
theorem dX11_show_108 : decode cX11_show 108 = .ok (.iload_n 3, 1) := by decide +kernel
theorem dX11_show_109 : decode cX11_show 109 = .ok (.ifCond .eq 16, 3) := by decide +kernel
theorem dX11_show_112 : decode cX11_show 112 = .ok (.aload 5, 2) := by decide +kernel
theorem dX11_show_114 : decode cX11_show 114 = .ok (.iload 8, 2) := by decide +kernel
theorem dX11_show_116 : decode cX11_show 116 = .ok (.invokevirtual 167, 3) := by decide +kernel
theorem dX11_show_119 : decode cX11_show 119 = .ok (.ifCond .eq 98, 3) := by decide +kernel
theorem dX11_show_122 : decode cX11_show 122 = .ok (.goto 16, 3) := by decide +kernel
theorem dX11_show_125 : decode cX11_show 125 = .ok (.aload 5, 2) := by decide +kernel
theorem dX11_show_127 : decode cX11_show 127 = .ok (.iload 8, 2) := by decide +kernel
theorem dX11_show_129 : decode cX11_show 129 = .ok (.invokevirtual 137, 3) := by decide +kernel
theorem dX11_show_132 : decode cX11_show 132 = .ok (.ifCond .ne 6, 3) := by decide +kernel
theorem dX11_show_135 : decode cX11_show 135 = .ok (.goto 82, 3) := by decide +kernel
theorem dX11_show_138 : decode cX11_show 138 = .ok (.iload_n 3, 1) := by decide +kernel
theorem dX11_show_139 : decode cX11_show 139 = .ok (.ifCond .eq 13, 3) := by decide +kernel
theorem dX11_show_142 : decode cX11_show 142 = .ok (.aload 5, 2) := by decide +kernel
theorem dX11_show_144 : decode cX11_show 144 = .ok (.iload 8, 2) := by decide +kernel
theorem dX11_show_146 : decode cX11_show 146 = .ok (.invokevirtual 178, 3) := by decide +kernel
theorem dX11_show_149 : decode cX11_show 149 = .ok (.goto 11, 3) := by decide +kernel
theorem dX11_show_152 : decode cX11_show 152 = .ok (.aload 5, 2) := by decide +kernel
theorem dX11_show_154 : decode cX11_show 154 = .ok (.getfield 143, 3) := by decide +kernel
theorem dX11_show_157 : decode cX11_show 157 = .ok (.iload 8, 2) := by decide +kernel
theorem dX11_show_159 : decode cX11_show 159 = .ok (.iaload, 1) := by decide +kernel
theorem dX11_show_160 : decode cX11_show 160 = .ok (.istore 9, 2) := by decide +kernel
theorem dX11_show_162 : decode cX11_show 162 = .ok (.iload_n 3, 1) := by decide +kernel
theorem dX11_show_163 : decode cX11_show 163 = .ok (.ifCond .eq 13, 3) := by decide +kernel
theorem dX11_show_166 : decode cX11_show 166 = .ok (.aload 5, 2) := by decide +kernel
theorem dX11_show_168 : decode cX11_show 168 = .ok (.iload 8, 2) := by decide +kernel
theorem dX11_show_170 : decode cX11_show 170 = .ok (.invokevirtual 181, 3) := by decide +kernel
theorem dX11_show_173 : decode cX11_show 173 = .ok (.goto 11, 3) := by decide +kernel
theorem dX11_show_176 : decode cX11_show 176 = .ok (.aload 5, 2) := by decide +kernel
theorem dX11_show_178 : decode cX11_show 178 = .ok (.getfield 146, 3) := by decide +kernel
theorem dX11_show_181 : decode cX11_show 181 = .ok (.iload 8, 2) := by decide +kernel
theorem dX11_show_183 : decode cX11_show 183 = .ok (.iaload, 1) := by decide +kernel
theorem dX11_show_184 : decode cX11_show 184 = .ok (.istore 10, 2) := by decide +kernel
theorem dX11_show_186 : decode cX11_show 186 = .ok (.iload 10, 2) := by decide +kernel
theorem dX11_show_188 : decode cX11_show 188 = .ok (.aload_n 0, 1) := by decide +kernel
theorem dX11_show_189 : decode cX11_show 189 = .ok (.getfield 59, 3) := by decide +kernel
theorem dX11_show_192 : decode cX11_show 192 = .ok (.iload 9, 2) := by decide +kernel
theorem dX11_show_194 : decode cX11_show 194 = .ok (.iaload, 1) := by decide +kernel
theorem dX11_show_195 : decode cX11_show 195 = .ok (.if_icmp .ne 6, 3) := by decide +kernel
theorem dX11_show_198 : decode cX11_show 198 = .ok (.goto 19, 3) := by decide +kernel
theorem dX11_show_201 : decode cX11_show 201 = .ok (.aload_n 0, 1) := by decide +kernel
theorem dX11_show_202 : decode cX11_show 202 = .ok (.getfield 59, 3) := by decide +kernel
theorem dX11_show_205 : decode cX11_show 205 = .ok (.iload 9, 2) := by decide +kernel
theorem dX11_show_207 : decode cX11_show 207 = .ok (.iload 10, 2) := by decide +kernel
theorem dX11_show_209 : decode cX11_show 209 = .ok (.iastore, 1) := by decide +kernel
theorem dX11_show_210 : decode cX11_show 210 = .ok (.aload 4, 2) := by decide +kernel
theorem dX11_show_212 : decode cX11_show 212 = .ok (.iload 7, 2) := by decide +kernel
theorem dX11_show_214 : decode cX11_show 214 = .ok (.iload 10, 2) := by decide +kernel
theorem dX11_show_216 : decode cX11_show 216 = .ok (.iastore, 1) := by decide +kernel
theorem dX11_show_217 : decode cX11_show 217 = .ok (.iinc 7 1, 3) := by decide +kernel
theorem dX11_show_220 : decode cX11_show 220 = .ok (.goto (-155), 3) := by decide +kernel
theorem dX11_show_223 : decode cX11_show 223 = .ok (.return_, 1) := by decide +kernel
theorem dX11_beam_0 : decode cX11_beam 0 = .ok (.aload_n 0, 1) := by decide +kernel
theorem dX11_beam_1 : decode cX11_beam 1 = .ok (.getfield 31, 3) := by decide +kernel
theorem dX11_beam_4 : decode cX11_beam 4 = .ok (.iload_n 2, 1) := by decide +kernel
theorem dX11_beam_5 : decode cX11_beam 5 = .ok (.iaload, 1) := by decide +kernel
theorem dX11_beam_6 : decode cX11_beam 6 = .ok (.iconst 2, 1) := by decide +kernel
theorem dX11_beam_7 : decode cX11_beam 7 = .ok (.if_icmp .ne 8, 3) := by decide +kernel
theorem dX11_beam_10 : decode cX11_beam 10 = .ok (.bipush 32, 2) := by decide +kernel
theorem dX11_beam_12 : decode cX11_beam 12 = .ok (.goto 32, 3) := by decide +kernel
theorem dX11_beam_15 : decode cX11_beam 15 = .ok (.aload_n 0, 1) := by decide +kernel
theorem dX11_beam_16 : decode cX11_beam 16 = .ok (.getfield 31, 3) := by decide +kernel
theorem dX11_beam_19 : decode cX11_beam 19 = .ok (.iload_n 2, 1) := by decide +kernel
theorem dX11_beam_20 : decode cX11_beam 20 = .ok (.iaload, 1) := by decide +kernel
theorem dX11_beam_21 : decode cX11_beam 21 = .ok (.bipush 8, 2) := by decide +kernel
theorem dX11_beam_23 : decode cX11_beam 23 = .ok (.if_icmp .ne 19, 3) := by decide +kernel
theorem dX11_beam_26 : decode cX11_beam 26 = .ok (.aload_n 0, 1) := by decide +kernel
theorem dX11_beam_27 : decode cX11_beam 27 = .ok (.getfield 28, 3) := by decide +kernel
theorem dX11_beam_30 : decode cX11_beam 30 = .ok (.iload_n 2, 1) := by decide +kernel
theorem dX11_beam_31 : decode cX11_beam 31 = .ok (.iaload, 1) := by decide +kernel
theorem dX11_beam_32 : decode cX11_beam 32 = .ok (.iconst 3, 1) := by decide +kernel
theorem dX11_beam_33 : decode cX11_beam 33 = .ok (.irem, 1) := by decide +kernel
theorem dX11_beam_34 : decode cX11_beam 34 = .ok (.ifCond .ne 8, 3) := by decide +kernel
theorem dX11_beam_37 : decode cX11_beam 37 = .ok (.bipush 24, 2) := by decide +kernel
theorem dX11_beam_39 : decode cX11_beam 39 = .ok (.goto 5, 3) := by decide +kernel
theorem dX11_beam_42 : decode cX11_beam 42 = .ok (.bipush 16, 2) := by decide +kernel
theorem dX11_beam_44 : decode cX11_beam 44 = .ok (.istore 4, 2) := by decide +kernel
theorem dX11_beam_46 : decode cX11_beam 46 = .ok (.aload_n 0, 1) := by decide +kernel
theorem dX11_beam_47 : decode cX11_beam 47 = .ok (.iconst 0, 1) := by decide +kernel
theorem dX11_beam_48 : decode cX11_beam 48 = .ok (.putfield 221, 3) := by decide +kernel
theorem dX11_beam_51 : decode cX11_beam 51 = .ok (.iconst 0, 1) := by decide +kernel
theorem dX11_beam_52 : decode cX11_beam 52 = .ok (.istore 5, 2) := by decide +kernel
theorem dX11_beam_54 : decode cX11_beam 54 = .ok (.iload 5, 2) := by decide +kernel
theorem dX11_beam_56 : decode cX11_beam 56 = .ok (.aload_n 0, 1) := by decide +kernel
theorem dX11_beam_57 : decode cX11_beam 57 = .ok (.getfield 202, 3) := by decide +kernel
theorem dX11_beam_60 : decode cX11_beam 60 = .ok (.if_icmp .ge 140, 3) := by decide +kernel
theorem dX11_beam_63 : decode cX11_beam 63 = .ok (.iload 5, 2) := by decide +kernel
theorem dX11_beam_65 : decode cX11_beam 65 = .ok (.istore 6, 2) := by decide +kernel
theorem dX11_beam_67 : decode cX11_beam 67 = .ok (.iload 6, 2) := by decide +kernel
theorem dX11_beam_69 : decode cX11_beam 69 = .ok (.aload_n 0, 1) := by decide +kernel
theorem dX11_beam_70 : decode cX11_beam 70 = .ok (.getfield 202, 3) := by decide +kernel
theorem dX11_beam_73 : decode cX11_beam 73 = .ok (.if_icmp .ge 46, 3) := by decide +kernel
theorem dX11_beam_76 : decode cX11_beam 76 = .ok (.aload_n 0, 1) := by decide +kernel
theorem dX11_beam_77 : decode cX11_beam 77 = .ok (.iload_n 1, 1) := by decide +kernel
theorem dX11_beam_78 : decode cX11_beam 78 = .ok (.iload 6, 2) := by decide +kernel
theorem dX11_beam_80 : decode cX11_beam 80 = .ok (.invokevirtual 224, 3) := by decide +kernel
theorem dX11_beam_83 : decode cX11_beam 83 = .ok (.ifCond .eq 36, 3) := by decide +kernel
theorem dX11_beam_86 : decode cX11_beam 86 = .ok (.aload_n 0, 1) := by decide +kernel
theorem dX11_beam_87 : decode cX11_beam 87 = .ok (.getfield 43, 3) := by decide +kernel
theorem dX11_beam_90 : decode cX11_beam 90 = .ok (.iload 6, 2) := by decide +kernel
theorem dX11_beam_92 : decode cX11_beam 92 = .ok (.iaload, 1) := by decide +kernel
theorem dX11_beam_93 : decode cX11_beam 93 = .ok (.iload_n 3, 1) := by decide +kernel
theorem dX11_beam_94 : decode cX11_beam 94 = .ok (.isub, 1) := by decide +kernel
theorem dX11_beam_95 : decode cX11_beam 95 = .ok (.iload 4, 2) := by decide +kernel
theorem dX11_beam_97 : decode cX11_beam 97 = .ok (.idiv, 1) := by decide +kernel
theorem dX11_beam_98 : decode cX11_beam 98 = .ok (.aload_n 0, 1) := by decide +kernel
theorem dX11_beam_99 : decode cX11_beam 99 = .ok (.getfield 43, 3) := by decide +kernel
theorem dX11_beam_102 : decode cX11_beam 102 = .ok (.iload 5, 2) := by decide +kernel
theorem dX11_beam_104 : decode cX11_beam 104 = .ok (.iaload, 1) := by decide +kernel
theorem dX11_beam_105 : decode cX11_beam 105 = .ok (.iload_n 3, 1) := by decide +kernel
theorem dX11_beam_106 : decode cX11_beam 106 = .ok (.isub, 1) := by decide +kernel
theorem dX11_beam_107 : decode cX11_beam 107 = .ok (.iload 4, 2) := by decide +kernel
theorem dX11_beam_109 : decode cX11_beam 109 = .ok (.idiv, 1) := by decide +kernel
theorem dX11_beam_110 : decode cX11_beam 110 = .ok (.if_icmp .ne 9, 3) := by decide +kernel
theorem dX11_beam_113 : decode cX11_beam 113 = .ok (.iinc 6 1, 3) := by decide +kernel
theorem dX11_beam_116 : decode cX11_beam 116 = .ok (.goto (-49), 3) := by decide +kernel
theorem dX11_beam_119 : decode cX11_beam 119 = .ok (.iload 5, 2) := by decide +kernel
theorem dX11_beam_121 : decode cX11_beam 121 = .ok (.istore 7, 2) := by decide +kernel
theorem dX11_beam_123 : decode cX11_beam 123 = .ok (.iload 7, 2) := by decide +kernel
theorem dX11_beam_125 : decode cX11_beam 125 = .ok (.iload 6, 2) := by decide +kernel
theorem dX11_beam_127 : decode cX11_beam 127 = .ok (.iload 5, 2) := by decide +kernel
theorem dX11_beam_129 : decode cX11_beam 129 = .ok (.iconst 1, 1) := by decide +kernel
theorem dX11_beam_130 : decode cX11_beam 130 = .ok (.iadd, 1) := by decide +kernel
theorem dX11_beam_131 : decode cX11_beam 131 = .ok (.invokestatic 205, 3) := by decide +kernel
theorem dX11_beam_134 : decode cX11_beam 134 = .ok (.if_icmp .ge 33, 3) := by decide +kernel
theorem dX11_beam_137 : decode cX11_beam 137 = .ok (.aload_n 0, 1) := by decide +kernel
theorem dX11_beam_138 : decode cX11_beam 138 = .ok (.getfield 56, 3) := by decide +kernel
theorem dX11_beam_141 : decode cX11_beam 141 = .ok (.iload 7, 2) := by decide +kernel
theorem dX11_beam_143 : decode cX11_beam 143 = .ok (.iload 6, 2) := by decide +kernel
theorem dX11_beam_145 : decode cX11_beam 145 = .ok (.iload 5, 2) := by decide +kernel
theorem dX11_beam_147 : decode cX11_beam 147 = .ok (.isub, 1) := by decide +kernel
theorem dX11_beam_148 : decode cX11_beam 148 = .ok (.iconst 2, 1) := by decide +kernel
theorem dX11_beam_149 : decode cX11_beam 149 = .ok (.if_icmp .ge 7, 3) := by decide +kernel
theorem dX11_beam_152 : decode cX11_beam 152 = .ok (.iconst (-1), 1) := by decide +kernel
theorem dX11_beam_153 : decode cX11_beam 153 = .ok (.goto 7, 3) := by decide +kernel
theorem dX11_beam_156 : decode cX11_beam 156 = .ok (.aload_n 0, 1) := by decide +kernel
theorem dX11_beam_157 : decode cX11_beam 157 = .ok (.getfield 221, 3) := by decide +kernel
theorem dX11_beam_160 : decode cX11_beam 160 = .ok (.iastore, 1) := by decide +kernel
theorem dX11_beam_161 : decode cX11_beam 161 = .ok (.iinc 7 1, 3) := by decide +kernel
theorem dX11_beam_164 : decode cX11_beam 164 = .ok (.goto (-41), 3) := by decide +kernel
theorem dX11_beam_167 : decode cX11_beam 167 = .ok (.iload 6, 2) := by decide +kernel
theorem dX11_beam_169 : decode cX11_beam 169 = .ok (.iload 5, 2) := by decide +kernel
theorem dX11_beam_171 : decode cX11_beam 171 = .ok (.isub, 1) := by decide +kernel
theorem dX11_beam_172 : decode cX11_beam 172 = .ok (.iconst 2, 1) := by decide +kernel
theorem dX11_beam_173 : decode cX11_beam 173 = .ok (.if_icmp .lt 13, 3) := by decide +kernel
theorem dX11_beam_176 : decode cX11_beam 176 = .ok (.aload_n 0, 1) := by decide +kernel
theorem dX11_beam_177 : decode cX11_beam 177 = .ok (.dup, 1) := by decide +kernel
theorem dX11_beam_178 : decode cX11_beam 178 = .ok (.getfield 221, 3) := by decide +kernel
theorem dX11_beam_181 : decode cX11_beam 181 = .ok (.iconst 1, 1) := by decide +kernel
theorem dX11_beam_182 : decode cX11_beam 182 = .ok (.iadd, 1) := by decide +kernel
theorem dX11_beam_183 : decode cX11_beam 183 = .ok (.putfield 221, 3) := by decide +kernel
theorem dX11_beam_186 : decode cX11_beam 186 = .ok (.iload 6, 2) := by decide +kernel
theorem dX11_beam_188 : decode cX11_beam 188 = .ok (.iload 5, 2) := by decide +kernel
theorem dX11_beam_190 : decode cX11_beam 190 = .ok (.iconst 1, 1) := by decide +kernel
theorem dX11_beam_191 : decode cX11_beam 191 = .ok (.iadd, 1) := by decide +kernel
theorem dX11_beam_192 : decode cX11_beam 192 = .ok (.invokestatic 205, 3) := by decide +kernel
theorem dX11_beam_195 : decode cX11_beam 195 = .ok (.istore 5, 2) := by decide +kernel
theorem dX11_beam_197 : decode cX11_beam 197 = .ok (.goto (-143), 3) := by decide +kernel
theorem dX11_beam_200 : decode cX11_beam 200 = .ok (.return_, 1) := by decide +kernel
theorem dX11_isShort_0 : decode cX11_isShort 0 = .ok (.aload_n 0, 1) := by decide +kernel
theorem dX11_isShort_1 : decode cX11_isShort 1 = .ok (.getfield 24, 3) := by decide +kernel
theorem dX11_isShort_4 : decode cX11_isShort 4 = .ok (.iload_n 1, 1) := by decide +kernel
theorem dX11_isShort_5 : decode cX11_isShort 5 = .ok (.aaload, 1) := by decide +kernel
theorem dX11_isShort_6 : decode cX11_isShort 6 = .ok (.aload_n 0, 1) := by decide +kernel
theorem dX11_isShort_7 : decode cX11_isShort 7 = .ok (.getfield 37, 3) := by decide +kernel
theorem dX11_isShort_10 : decode cX11_isShort 10 = .ok (.iload_n 2, 1) := by decide +kernel
theorem dX11_isShort_11 : decode cX11_isShort 11 = .ok (.iaload, 1) := by decide +kernel
theorem dX11_isShort_12 : decode cX11_isShort 12 = .ok (.invokevirtual 137, 3) := by decide +kernel
theorem dX11_isShort_15 : decode cX11_isShort 15 = .ok (.ifCond .eq 18, 3) := by decide +kernel
theorem dX11_isShort_18 : decode cX11_isShort 18 = .ok (.aload_n 0, 1) := by decide +kernel
theorem dX11_isShort_19 : decode cX11_isShort 19 = .ok (.getfield 40, 3) := by decide +kernel
theorem dX11_isShort_22 : decode cX11_isShort 22 = .ok (.iload_n 2, 1) := by decide +kernel
theorem dX11_isShort_23 : decode cX11_isShort 23 = .ok (.iaload, 1) := by decide +kernel
theorem dX11_isShort_24 : decode cX11_isShort 24 = .ok (.bipush 12, 2) := by decide +kernel
theorem dX11_isShort_26 : decode cX11_isShort 26 = .ok (.if_icmp .gt 7, 3) := by decide +kernel
theorem dX11_isShort_29 : decode cX11_isShort 29 = .ok (.iconst 1, 1) := by decide +kernel
theorem dX11_isShort_30 : decode cX11_isShort 30 = .ok (.goto 4, 3) := by decide +kernel
theorem dX11_isShort_33 : decode cX11_isShort 33 = .ok (.iconst 0, 1) := by decide +kernel
theorem dX11_isShort_34 : decode cX11_isShort 34 = .ok (.ireturn, 1) := by decide +kernel
theorem dX11_has_0 : decode cX11_has 0 = .ok (.aload_n 0, 1) := by decide +kernel
theorem dX11_has_1 : decode cX11_has 1 = .ok (.iload_n 1, 1) := by decide +kernel
theorem dX11_has_2 : decode cX11_has 2 = .ok (.invokestatic 95, 3) := by decide +kernel
theorem dX11_has_5 : decode cX11_has 5 = .ok (.ifCond .eq 14, 3) := by decide +kernel
theorem dX11_has_8 : decode cX11_has 8 = .ok (.iload_n 2, 1) := by decide +kernel
theorem dX11_has_9 : decode cX11_has 9 = .ok (.invokestatic 149, 3) := by decide +kernel
theorem dX11_has_12 : decode cX11_has 12 = .ok (.ifCond .eq 7, 3) := by decide +kernel
theorem dX11_has_15 : decode cX11_has 15 = .ok (.iconst 0, 1) := by decide +kernel
theorem dX11_has_16 : decode cX11_has 16 = .ok (.goto 4, 3) := by decide +kernel
theorem dX11_has_19 : decode cX11_has 19 = .ok (.iconst 1, 1) := by decide +kernel
theorem dX11_has_20 : decode cX11_has 20 = .ok (.putfield 87, 3) := by decide +kernel
theorem dX11_has_23 : decode cX11_has 23 = .ok (.aload_n 0, 1) := by decide +kernel
theorem dX11_has_24 : decode cX11_has 24 = .ok (.getfield 87, 3) := by decide +kernel
theorem dX11_has_27 : decode cX11_has 27 = .ok (.ifCond .ne 9, 3) := by decide +kernel
theorem dX11_has_30 : decode cX11_has 30 = .ok (.aload_n 0, 1) := by decide +kernel
theorem dX11_has_31 : decode cX11_has 31 = .ok (.iload_n 1, 1) := by decide +kernel
theorem dX11_has_32 : decode cX11_has 32 = .ok (.iload_n 2, 1) := by decide +kernel
theorem dX11_has_33 : decode cX11_has 33 = .ok (.invokevirtual 227, 3) := by decide +kernel
theorem dX11_has_36 : decode cX11_has 36 = .ok (.aload_n 0, 1) := by decide +kernel
theorem dX11_has_37 : decode cX11_has 37 = .ok (.getfield 87, 3) := by decide +kernel
theorem dX11_has_40 : decode cX11_has 40 = .ok (.ifCond .ne 7, 3) := by decide +kernel
theorem dX11_has_43 : decode cX11_has 43 = .ok (.iconst 1, 1) := by decide +kernel
theorem dX11_has_44 : decode cX11_has 44 = .ok (.goto 4, 3) := by decide +kernel
theorem dX11_has_47 : decode cX11_has 47 = .ok (.iconst 0, 1) := by decide +kernel
theorem dX11_has_48 : decode cX11_has 48 = .ok (.ireturn, 1) := by decide +kernel
theorem dX11_has__0 : decode cX11_has_ 0 = .ok (.aload_n 0, 1) := by decide +kernel
theorem dX11_has__1 : decode cX11_has_ 1 = .ok (.iload_n 1, 1) := by decide +kernel
theorem dX11_has__2 : decode cX11_has_ 2 = .ok (.iload_n 2, 1) := by decide +kernel
theorem dX11_has__3 : decode cX11_has_ 3 = .ok (.invokevirtual 231, 3) := by decide +kernel
theorem dX11_has__6 : decode cX11_has_ 6 = .ok (.ifCond .eq 22, 3) := by decide +kernel
theorem dX11_has__9 : decode cX11_has_ 9 = .ok (.iload_n 3, 1) := by decide +kernel
theorem dX11_has__10 : decode cX11_has_ 10 = .ok (.iconst 0, 1) := by decide +kernel
theorem dX11_has__11 : decode cX11_has_ 11 = .ok (.aload_n 0, 1) := by decide +kernel
theorem dX11_has__12 : decode cX11_has_ 12 = .ok (.getfield 202, 3) := by decide +kernel
theorem dX11_has__15 : decode cX11_has_ 15 = .ok (.iconst 1, 1) := by decide +kernel
theorem dX11_has__16 : decode cX11_has_ 16 = .ok (.isub, 1) := by decide +kernel
theorem dX11_has__17 : decode cX11_has_ 17 = .ok (.invokestatic 91, 3) := by decide +kernel
theorem dX11_has__20 : decode cX11_has_ 20 = .ok (.ifCond .ne 8, 3) := by decide +kernel
theorem dX11_has__23 : decode cX11_has_ 23 = .ok (.aload_n 0, 1) := by decide +kernel
theorem dX11_has__24 : decode cX11_has_ 24 = .ok (.iconst 1, 1) := by decide +kernel
theorem dX11_has__25 : decode cX11_has_ 25 = .ok (.putfield 87, 3) := by decide +kernel
theorem dX11_has__28 : decode cX11_has_ 28 = .ok (.aload_n 0, 1) := by decide +kernel
theorem dX11_has__29 : decode cX11_has_ 29 = .ok (.getfield 87, 3) := by decide +kernel
theorem dX11_has__32 : decode cX11_has_ 32 = .ok (.ifCond .ne 7, 3) := by decide +kernel
theorem dX11_has__35 : decode cX11_has_ 35 = .ok (.iconst 1, 1) := by decide +kernel
theorem dX11_has__36 : decode cX11_has_ 36 = .ok (.goto 4, 3) := by decide +kernel
theorem dX11_has__39 : decode cX11_has_ 39 = .ok (.iconst 0, 1) := by decide +kernel
theorem dX11_has__40 : decode cX11_has_ 40 = .ok (.ireturn, 1) := by decide +kernel
theorem dX11_signs_0 : decode cX11_signs 0 = .ok (.aload_n 0, 1) := by decide +kernel
theorem dX11_signs_1 : decode cX11_signs 1 = .ok (.iload_n 1, 1) := by decide +kernel
theorem dX11_signs_2 : decode cX11_signs 2 = .ok (.iload_n 2, 1) := by decide +kernel
theorem dX11_signs_3 : decode cX11_signs 3 = .ok (.invokevirtual 231, 3) := by decide +kernel
theorem dX11_signs_6 : decode cX11_signs 6 = .ok (.ifCond .eq 10, 3) := by decide +kernel
theorem dX11_signs_9 : decode cX11_signs 9 = .ok (.aload_n 0, 1) := by decide +kernel
theorem dX11_signs_10 : decode cX11_signs 10 = .ok (.getfield 202, 3) := by decide +kernel
theorem dX11_signs_13 : decode cX11_signs 13 = .ok (.goto 4, 3) := by decide +kernel
theorem dX11_signs_16 : decode cX11_signs 16 = .ok (.iconst 0, 1) := by decide +kernel
theorem dX11_signs_17 : decode cX11_signs 17 = .ok (.ireturn, 1) := by decide +kernel
theorem dX11_eventOf_0 : decode cX11_eventOf 0 = .ok (.aload_n 0, 1) := by decide +kernel
theorem dX11_eventOf_1 : decode cX11_eventOf 1 = .ok (.iload_n 1, 1) := by decide +kernel
theorem dX11_eventOf_2 : decode cX11_eventOf 2 = .ok (.iload_n 2, 1) := by decide +kernel
theorem dX11_eventOf_3 : decode cX11_eventOf 3 = .ok (.iload_n 3, 1) := by decide +kernel
theorem dX11_eventOf_4 : decode cX11_eventOf 4 = .ok (.invokevirtual 234, 3) := by decide +kernel
theorem dX11_eventOf_7 : decode cX11_eventOf 7 = .ok (.ifCond .eq 12, 3) := by decide +kernel
theorem dX11_eventOf_10 : decode cX11_eventOf 10 = .ok (.aload_n 0, 1) := by decide +kernel
theorem dX11_eventOf_11 : decode cX11_eventOf 11 = .ok (.getfield 37, 3) := by decide +kernel
theorem dX11_eventOf_14 : decode cX11_eventOf 14 = .ok (.iload_n 3, 1) := by decide +kernel
theorem dX11_eventOf_15 : decode cX11_eventOf 15 = .ok (.iaload, 1) := by decide +kernel
theorem dX11_eventOf_16 : decode cX11_eventOf 16 = .ok (.goto 4, 3) := by decide +kernel
theorem dX11_eventOf_19 : decode cX11_eventOf 19 = .ok (.iconst 0, 1) := by decide +kernel
theorem dX11_eventOf_20 : decode cX11_eventOf 20 = .ok (.ireturn, 1) := by decide +kernel
theorem dX11_lengthOf_0 : decode cX11_lengthOf 0 = .ok (.aload_n 0, 1) := by decide +kernel
theorem dX11_lengthOf_1 : decode cX11_lengthOf 1 = .ok (.iload_n 1, 1) := by decide +kernel
theorem dX11_lengthOf_2 : decode cX11_lengthOf 2 = .ok (.iload_n 2, 1) := by decide +kernel
theorem dX11_lengthOf_3 : decode cX11_lengthOf 3 = .ok (.iload_n 3, 1) := by decide +kernel
theorem dX11_lengthOf_4 : decode cX11_lengthOf 4 = .ok (.invokevirtual 234, 3) := by decide +kernel
theorem dX11_lengthOf_7 : decode cX11_lengthOf 7 = .ok (.ifCond .eq 12, 3) := by decide +kernel
theorem dX11_lengthOf_10 : decode cX11_lengthOf 10 = .ok (.aload_n 0, 1) := by decide +kernel
theorem dX11_lengthOf_11 : decode cX11_lengthOf 11 = .ok (.getfield 40, 3) := by decide +kernel
theorem dX11_lengthOf_14 : decode cX11_lengthOf 14 = .ok (.iload_n 3, 1) := by decide +kernel
theorem dX11_lengthOf_15 : decode cX11_lengthOf 15 = .ok (.iaload, 1) := by decide +kernel
theorem dX11_lengthOf_16 : decode cX11_lengthOf 16 = .ok (.goto 4, 3) := by decide +kernel
theorem dX11_lengthOf_19 : decode cX11_lengthOf 19 = .ok (.iconst 0, 1) := by decide +kernel
theorem dX11_lengthOf_20 : decode cX11_lengthOf 20 = .ok (.ireturn, 1) := by decide +kernel
theorem dX11_isTied_0 : decode cX11_isTied 0 = .ok (.aload_n 0, 1) := by decide +kernel
theorem dX11_isTied_1 : decode cX11_isTied 1 = .ok (.iload_n 1, 1) := by decide +kernel
theorem dX11_isTied_2 : decode cX11_isTied 2 = .ok (.iload_n 2, 1) := by decide +kernel
theorem dX11_isTied_3 : decode cX11_isTied 3 = .ok (.iload_n 3, 1) := by decide +kernel
theorem dX11_isTied_4 : decode cX11_isTied 4 = .ok (.invokevirtual 234, 3) := by decide +kernel
theorem dX11_isTied_7 : decode cX11_isTied 7 = .ok (.ifCond .eq 16, 3) := by decide +kernel
theorem dX11_isTied_10 : decode cX11_isTied 10 = .ok (.aload_n 0, 1) := by decide +kernel
theorem dX11_isTied_11 : decode cX11_isTied 11 = .ok (.getfield 46, 3) := by decide +kernel
theorem dX11_isTied_14 : decode cX11_isTied 14 = .ok (.iload_n 3, 1) := by decide +kernel
theorem dX11_isTied_15 : decode cX11_isTied 15 = .ok (.baload, 1) := by decide +kernel
theorem dX11_isTied_16 : decode cX11_isTied 16 = .ok (.ifCond .eq 7, 3) := by decide +kernel
theorem dX11_isTied_19 : decode cX11_isTied 19 = .ok (.iconst 1, 1) := by decide +kernel
theorem dX11_isTied_20 : decode cX11_isTied 20 = .ok (.goto 4, 3) := by decide +kernel
theorem dX11_isTied_23 : decode cX11_isTied 23 = .ok (.iconst 0, 1) := by decide +kernel
theorem dX11_isTied_24 : decode cX11_isTied 24 = .ok (.ireturn, 1) := by decide +kernel
theorem dX11_shown_0 : decode cX11_shown 0 = .ok (.aload_n 0, 1) := by decide +kernel
theorem dX11_shown_1 : decode cX11_shown 1 = .ok (.iload_n 1, 1) := by decide +kernel
theorem dX11_shown_2 : decode cX11_shown 2 = .ok (.iload_n 2, 1) := by decide +kernel
theorem dX11_shown_3 : decode cX11_shown 3 = .ok (.iload_n 3, 1) := by decide +kernel
theorem dX11_shown_4 : decode cX11_shown 4 = .ok (.invokevirtual 234, 3) := by decide +kernel
theorem dX11_shown_7 : decode cX11_shown 7 = .ok (.ifCond .eq 12, 3) := by decide +kernel
theorem dX11_shown_10 : decode cX11_shown 10 = .ok (.aload_n 0, 1) := by decide +kernel
theorem dX11_shown_11 : decode cX11_shown 11 = .ok (.getfield 50, 3) := by decide +kernel
theorem dX11_shown_14 : decode cX11_shown 14 = .ok (.iload_n 3, 1) := by decide +kernel
theorem dX11_shown_15 : decode cX11_shown 15 = .ok (.iaload, 1) := by decide +kernel
theorem dX11_shown_16 : decode cX11_shown 16 = .ok (.goto 4, 3) := by decide +kernel
theorem dX11_shown_19 : decode cX11_shown 19 = .ok (.iconst 0, 1) := by decide +kernel
theorem dX11_shown_20 : decode cX11_shown 20 = .ok (.ireturn, 1) := by decide +kernel
theorem dX11_shownWritten_0 : decode cX11_shownWritten 0 = .ok (.aload_n 0, 1) := by decide +kernel
theorem dX11_shownWritten_1 : decode cX11_shownWritten 1 = .ok (.iload_n 1, 1) := by decide +kernel
theorem dX11_shownWritten_2 : decode cX11_shownWritten 2 = .ok (.iload_n 2, 1) := by decide +kernel
theorem dX11_shownWritten_3 : decode cX11_shownWritten 3 = .ok (.iload_n 3, 1) := by decide +kernel
theorem dX11_shownWritten_4 : decode cX11_shownWritten 4 = .ok (.invokevirtual 234, 3) := by decide +kernel
theorem dX11_shownWritten_7 : decode cX11_shownWritten 7 = .ok (.ifCond .eq 12, 3) := by decide +kernel
theorem dX11_shownWritten_10 : decode cX11_shownWritten 10 = .ok (.aload_n 0, 1) := by decide +kernel
theorem dX11_shownWritten_11 : decode cX11_shownWritten 11 = .ok (.getfield 53, 3) := by decide +kernel
theorem dX11_shownWritten_14 : decode cX11_shownWritten 14 = .ok (.iload_n 3, 1) := by decide +kernel
theorem dX11_shownWritten_15 : decode cX11_shownWritten 15 = .ok (.iaload, 1) := by decide +kernel
theorem dX11_shownWritten_16 : decode cX11_shownWritten 16 = .ok (.goto 4, 3) := by decide +kernel
theorem dX11_shownWritten_19 : decode cX11_shownWritten 19 = .ok (.iconst 0, 1) := by decide +kernel
theorem dX11_shownWritten_20 : decode cX11_shownWritten 20 = .ok (.ireturn, 1) := by decide +kernel
theorem dX11_beams_0 : decode cX11_beams 0 = .ok (.aload_n 0, 1) := by decide +kernel
theorem dX11_beams_1 : decode cX11_beams 1 = .ok (.iload_n 1, 1) := by decide +kernel
theorem dX11_beams_2 : decode cX11_beams 2 = .ok (.iload_n 2, 1) := by decide +kernel
theorem dX11_beams_3 : decode cX11_beams 3 = .ok (.invokevirtual 231, 3) := by decide +kernel
theorem dX11_beams_6 : decode cX11_beams 6 = .ok (.ifCond .eq 10, 3) := by decide +kernel
theorem dX11_beams_9 : decode cX11_beams 9 = .ok (.aload_n 0, 1) := by decide +kernel
theorem dX11_beams_10 : decode cX11_beams 10 = .ok (.getfield 221, 3) := by decide +kernel
theorem dX11_beams_13 : decode cX11_beams 13 = .ok (.goto 4, 3) := by decide +kernel
theorem dX11_beams_16 : decode cX11_beams 16 = .ok (.iconst 0, 1) := by decide +kernel
theorem dX11_beams_17 : decode cX11_beams 17 = .ok (.ireturn, 1) := by decide +kernel
theorem dX11_beamOf_0 : decode cX11_beamOf 0 = .ok (.aload_n 0, 1) := by decide +kernel
theorem dX11_beamOf_1 : decode cX11_beamOf 1 = .ok (.iload_n 1, 1) := by decide +kernel
theorem dX11_beamOf_2 : decode cX11_beamOf 2 = .ok (.iload_n 2, 1) := by decide +kernel
theorem dX11_beamOf_3 : decode cX11_beamOf 3 = .ok (.iload_n 3, 1) := by decide +kernel
theorem dX11_beamOf_4 : decode cX11_beamOf 4 = .ok (.invokevirtual 234, 3) := by decide +kernel
theorem dX11_beamOf_7 : decode cX11_beamOf 7 = .ok (.ifCond .eq 12, 3) := by decide +kernel
theorem dX11_beamOf_10 : decode cX11_beamOf 10 = .ok (.aload_n 0, 1) := by decide +kernel
theorem dX11_beamOf_11 : decode cX11_beamOf 11 = .ok (.getfield 56, 3) := by decide +kernel
theorem dX11_beamOf_14 : decode cX11_beamOf 14 = .ok (.iload_n 3, 1) := by decide +kernel
theorem dX11_beamOf_15 : decode cX11_beamOf 15 = .ok (.iaload, 1) := by decide +kernel
theorem dX11_beamOf_16 : decode cX11_beamOf 16 = .ok (.goto 4, 3) := by decide +kernel
theorem dX11_beamOf_19 : decode cX11_beamOf 19 = .ok (.iconst 0, 1) := by decide +kernel
theorem dX11_beamOf_20 : decode cX11_beamOf 20 = .ok (.ireturn, 1) := by decide +kernel
theorem dX11_missingNow_0 : decode cX11_missingNow 0 = .ok (.iconst 0, 1) := by decide +kernel
theorem dX11_missingNow_1 : decode cX11_missingNow 1 = .ok (.aload_n 0, 1) := by decide +kernel
theorem dX11_missingNow_2 : decode cX11_missingNow 2 = .ok (.iload_n 2, 1) := by decide +kernel
theorem dX11_missingNow_3 : decode cX11_missingNow 3 = .ok (.invokevirtual 105, 3) := by decide +kernel
theorem dX11_missingNow_6 : decode cX11_missingNow 6 = .ok (.aload_n 0, 1) := by decide +kernel
theorem dX11_missingNow_7 : decode cX11_missingNow 7 = .ok (.iload_n 2, 1) := by decide +kernel
theorem dX11_missingNow_8 : decode cX11_missingNow 8 = .ok (.invokevirtual 112, 3) := by decide +kernel
theorem dX11_missingNow_11 : decode cX11_missingNow 11 = .ok (.aload_n 0, 1) := by decide +kernel
theorem dX11_missingNow_12 : decode cX11_missingNow 12 = .ok (.iload_n 2, 1) := by decide +kernel
theorem dX11_missingNow_13 : decode cX11_missingNow 13 = .ok (.invokevirtual 105, 3) := by decide +kernel
theorem dX11_missingNow_16 : decode cX11_missingNow 16 = .ok (.iadd, 1) := by decide +kernel
theorem dX11_missingNow_17 : decode cX11_missingNow 17 = .ok (.aload_n 0, 1) := by decide +kernel
theorem dX11_missingNow_18 : decode cX11_missingNow 18 = .ok (.getfield 24, 3) := by decide +kernel
theorem dX11_missingNow_21 : decode cX11_missingNow 21 = .ok (.iload_n 1, 1) := by decide +kernel
theorem dX11_missingNow_22 : decode cX11_missingNow 22 = .ok (.aaload, 1) := by decide +kernel
theorem dX11_missingNow_23 : decode cX11_missingNow 23 = .ok (.invokevirtual 109, 3) := by decide +kernel
theorem dX11_missingNow_26 : decode cX11_missingNow 26 = .ok (.isub, 1) := by decide +kernel
theorem dX11_missingNow_27 : decode cX11_missingNow 27 = .ok (.invokestatic 211, 3) := by decide +kernel
theorem dX11_missingNow_30 : decode cX11_missingNow 30 = .ok (.invokestatic 205, 3) := by decide +kernel
theorem dX11_missingNow_33 : decode cX11_missingNow 33 = .ok (.ireturn, 1) := by decide +kernel
theorem dX11_missing_0 : decode cX11_missing 0 = .ok (.aload_n 0, 1) := by decide +kernel
theorem dX11_missing_1 : decode cX11_missing 1 = .ok (.iconst 0, 1) := by decide +kernel
theorem dX11_missing_2 : decode cX11_missing 2 = .ok (.putfield 87, 3) := by decide +kernel
theorem dX11_missing_5 : decode cX11_missing 5 = .ok (.iload_n 1, 1) := by decide +kernel
theorem dX11_missing_6 : decode cX11_missing 6 = .ok (.invokestatic 95, 3) := by decide +kernel
theorem dX11_missing_9 : decode cX11_missing 9 = .ok (.ifCond .eq 19, 3) := by decide +kernel
theorem dX11_missing_12 : decode cX11_missing 12 = .ok (.iload_n 2, 1) := by decide +kernel
theorem dX11_missing_13 : decode cX11_missing 13 = .ok (.invokestatic 149, 3) := by decide +kernel
theorem dX11_missing_16 : decode cX11_missing 16 = .ok (.ifCond .eq 12, 3) := by decide +kernel
theorem dX11_missing_19 : decode cX11_missing 19 = .ok (.aload_n 0, 1) := by decide +kernel
theorem dX11_missing_20 : decode cX11_missing 20 = .ok (.iload_n 1, 1) := by decide +kernel
theorem dX11_missing_21 : decode cX11_missing 21 = .ok (.iload_n 2, 1) := by decide +kernel
theorem dX11_missing_22 : decode cX11_missing 22 = .ok (.invokevirtual 236, 3) := by decide +kernel
theorem dX11_missing_25 : decode cX11_missing 25 = .ok (.goto 8, 3) := by decide +kernel
theorem dX11_missing_28 : decode cX11_missing 28 = .ok (.aload_n 0, 1) := by decide +kernel
theorem dX11_missing_29 : decode cX11_missing 29 = .ok (.iconst 1, 1) := by decide +kernel
theorem dX11_missing_30 : decode cX11_missing 30 = .ok (.invokevirtual 115, 3) := by decide +kernel
theorem dX11_missing_33 : decode cX11_missing 33 = .ok (.ireturn, 1) := by decide +kernel
theorem dX11_beginWalk_0 : decode cX11_beginWalk 0 = .ok (.aload_n 0, 1) := by decide +kernel
theorem dX11_beginWalk_1 : decode cX11_beginWalk 1 = .ok (.iconst (-1), 1) := by decide +kernel
theorem dX11_beginWalk_2 : decode cX11_beginWalk 2 = .ok (.putfield 239, 3) := by decide +kernel
theorem dX11_beginWalk_5 : decode cX11_beginWalk 5 = .ok (.iconst 0, 1) := by decide +kernel
theorem dX11_beginWalk_6 : decode cX11_beginWalk 6 = .ok (.istore_n 1, 1) := by decide +kernel
theorem dX11_beginWalk_7 : decode cX11_beginWalk 7 = .ok (.iload_n 1, 1) := by decide +kernel
theorem dX11_beginWalk_8 : decode cX11_beginWalk 8 = .ok (.iconst 4, 1) := by decide +kernel
theorem dX11_beginWalk_9 : decode cX11_beginWalk 9 = .ok (.if_icmp .ge 23, 3) := by decide +kernel
theorem dX11_beginWalk_12 : decode cX11_beginWalk 12 = .ok (.aload_n 0, 1) := by decide +kernel
theorem dX11_beginWalk_13 : decode cX11_beginWalk 13 = .ok (.getfield 62, 3) := by decide +kernel
theorem dX11_beginWalk_16 : decode cX11_beginWalk 16 = .ok (.iload_n 1, 1) := by decide +kernel
theorem dX11_beginWalk_17 : decode cX11_beginWalk 17 = .ok (.iconst (-1), 1) := by decide +kernel
theorem dX11_beginWalk_18 : decode cX11_beginWalk 18 = .ok (.iastore, 1) := by decide +kernel
theorem dX11_beginWalk_19 : decode cX11_beginWalk 19 = .ok (.aload_n 0, 1) := by decide +kernel
theorem dX11_beginWalk_20 : decode cX11_beginWalk 20 = .ok (.getfield 65, 3) := by decide +kernel
theorem dX11_beginWalk_23 : decode cX11_beginWalk 23 = .ok (.iload_n 1, 1) := by decide +kernel
theorem dX11_beginWalk_24 : decode cX11_beginWalk 24 = .ok (.iconst 0, 1) := by decide +kernel
theorem dX11_beginWalk_25 : decode cX11_beginWalk 25 = .ok (.iastore, 1) := by decide +kernel
theorem dX11_beginWalk_26 : decode cX11_beginWalk 26 = .ok (.iinc 1 1, 3) := by decide +kernel
theorem dX11_beginWalk_29 : decode cX11_beginWalk 29 = .ok (.goto (-22), 3) := by decide +kernel
theorem dX11_beginWalk_32 : decode cX11_beginWalk 32 = .ok (.return_, 1) := by decide +kernel
theorem dX11_walk_0 : decode cX11_walk 0 = .ok (.ldc 244, 2) := by decide +kernel
theorem dX11_walk_2 : decode cX11_walk 2 = .ok (.istore_n 1, 1) := by decide +kernel
theorem dX11_walk_3 : decode cX11_walk 3 = .ok (.iconst 0, 1) := by decide +kernel
theorem dX11_walk_4 : decode cX11_walk 4 = .ok (.istore_n 2, 1) := by decide +kernel
theorem dX11_walk_5 : decode cX11_walk 5 = .ok (.iload_n 2, 1) := by decide +kernel
theorem dX11_walk_6 : decode cX11_walk 6 = .ok (.iconst 4, 1) := by decide +kernel
theorem dX11_walk_7 : decode cX11_walk 7 = .ok (.if_icmp .ge 48, 3) := by decide +kernel
theorem dX11_walk_10 : decode cX11_walk 10 = .ok (.aload_n 0, 1) := by decide +kernel
theorem dX11_walk_11 : decode cX11_walk 11 = .ok (.getfield 65, 3) := by decide +kernel
theorem dX11_walk_14 : decode cX11_walk 14 = .ok (.iload_n 2, 1) := by decide +kernel
theorem dX11_walk_15 : decode cX11_walk 15 = .ok (.iaload, 1) := by decide +kernel
theorem dX11_walk_16 : decode cX11_walk 16 = .ok (.aload_n 0, 1) := by decide +kernel
theorem dX11_walk_17 : decode cX11_walk 17 = .ok (.getfield 24, 3) := by decide +kernel
theorem dX11_walk_20 : decode cX11_walk 20 = .ok (.iload_n 2, 1) := by decide +kernel
theorem dX11_walk_21 : decode cX11_walk 21 = .ok (.aaload, 1) := by decide +kernel
theorem dX11_walk_22 : decode cX11_walk 22 = .ok (.getfield 99, 3) := by decide +kernel
theorem dX11_walk_25 : decode cX11_walk 25 = .ok (.if_icmp .ge 24, 3) := by decide +kernel
theorem dX11_walk_28 : decode cX11_walk 28 = .ok (.iload_n 1, 1) := by decide +kernel
theorem dX11_walk_29 : decode cX11_walk 29 = .ok (.aload_n 0, 1) := by decide +kernel
theorem dX11_walk_30 : decode cX11_walk 30 = .ok (.getfield 24, 3) := by decide +kernel
theorem dX11_walk_33 : decode cX11_walk 33 = .ok (.iload_n 2, 1) := by decide +kernel
theorem dX11_walk_34 : decode cX11_walk 34 = .ok (.aaload, 1) := by decide +kernel
theorem dX11_walk_35 : decode cX11_walk 35 = .ok (.getfield 170, 3) := by decide +kernel
theorem dX11_walk_38 : decode cX11_walk 38 = .ok (.aload_n 0, 1) := by decide +kernel
theorem dX11_walk_39 : decode cX11_walk 39 = .ok (.getfield 65, 3) := by decide +kernel
theorem dX11_walk_42 : decode cX11_walk 42 = .ok (.iload_n 2, 1) := by decide +kernel
theorem dX11_walk_43 : decode cX11_walk 43 = .ok (.iaload, 1) := by decide +kernel
theorem dX11_walk_44 : decode cX11_walk 44 = .ok (.iaload, 1) := by decide +kernel
theorem dX11_walk_45 : decode cX11_walk 45 = .ok (.invokestatic 211, 3) := by decide +kernel
theorem dX11_walk_48 : decode cX11_walk 48 = .ok (.istore_n 1, 1) := by decide +kernel
theorem dX11_walk_49 : decode cX11_walk 49 = .ok (.iinc 2 1, 3) := by decide +kernel
theorem dX11_walk_52 : decode cX11_walk 52 = .ok (.goto (-47), 3) := by decide +kernel
theorem dX11_walk_55 : decode cX11_walk 55 = .ok (.iload_n 1, 1) := by decide +kernel
theorem dX11_walk_56 : decode cX11_walk 56 = .ok (.ldc 244, 2) := by decide +kernel
theorem dX11_walk_58 : decode cX11_walk 58 = .ok (.if_icmp .ne 5, 3) := by decide +kernel
theorem dX11_walk_61 : decode cX11_walk 61 = .ok (.iconst 0, 1) := by decide +kernel
theorem dX11_walk_62 : decode cX11_walk 62 = .ok (.ireturn, 1) := by decide +kernel
theorem dX11_walk_63 : decode cX11_walk 63 = .ok (.aload_n 0, 1) := by decide +kernel
theorem dX11_walk_64 : decode cX11_walk 64 = .ok (.iload_n 1, 1) := by decide +kernel
theorem dX11_walk_65 : decode cX11_walk 65 = .ok (.putfield 239, 3) := by decide +kernel
theorem dX11_walk_68 : decode cX11_walk 68 = .ok (.iconst 0, 1) := by decide +kernel
theorem dX11_walk_69 : decode cX11_walk 69 = .ok (.istore_n 2, 1) := by decide +kernel
theorem dX11_walk_70 : decode cX11_walk 70 = .ok (.iload_n 2, 1) := by decide +kernel
theorem dX11_walk_71 : decode cX11_walk 71 = .ok (.iconst 4, 1) := by decide +kernel
theorem dX11_walk_72 : decode cX11_walk 72 = .ok (.if_icmp .ge 108, 3) := by decide +kernel
theorem dX11_walk_75 : decode cX11_walk 75 = .ok (.aload_n 0, 1) := by decide +kernel
theorem dX11_walk_76 : decode cX11_walk 76 = .ok (.getfield 65, 3) := by decide +kernel
theorem dX11_walk_79 : decode cX11_walk 79 = .ok (.iload_n 2, 1) := by decide +kernel
theorem dX11_walk_80 : decode cX11_walk 80 = .ok (.iaload, 1) := by decide +kernel
theorem dX11_walk_81 : decode cX11_walk 81 = .ok (.aload_n 0, 1) := by decide +kernel
theorem dX11_walk_82 : decode cX11_walk 82 = .ok (.getfield 24, 3) := by decide +kernel
theorem dX11_walk_85 : decode cX11_walk 85 = .ok (.iload_n 2, 1) := by decide +kernel
theorem dX11_walk_86 : decode cX11_walk 86 = .ok (.aaload, 1) := by decide +kernel
theorem dX11_walk_87 : decode cX11_walk 87 = .ok (.getfield 99, 3) := by decide +kernel
theorem dX11_walk_90 : decode cX11_walk 90 = .ok (.if_icmp .ge 48, 3) := by decide +kernel
theorem dX11_walk_93 : decode cX11_walk 93 = .ok (.aload_n 0, 1) := by decide +kernel
theorem dX11_walk_94 : decode cX11_walk 94 = .ok (.getfield 24, 3) := by decide +kernel
theorem dX11_walk_97 : decode cX11_walk 97 = .ok (.iload_n 2, 1) := by decide +kernel
theorem dX11_walk_98 : decode cX11_walk 98 = .ok (.aaload, 1) := by decide +kernel
theorem dX11_walk_99 : decode cX11_walk 99 = .ok (.getfield 170, 3) := by decide +kernel
theorem dX11_walk_102 : decode cX11_walk 102 = .ok (.aload_n 0, 1) := by decide +kernel
theorem dX11_walk_103 : decode cX11_walk 103 = .ok (.getfield 65, 3) := by decide +kernel
theorem dX11_walk_106 : decode cX11_walk 106 = .ok (.iload_n 2, 1) := by decide +kernel
theorem dX11_walk_107 : decode cX11_walk 107 = .ok (.iaload, 1) := by decide +kernel
theorem dX11_walk_108 : decode cX11_walk 108 = .ok (.iaload, 1) := by decide +kernel
theorem dX11_walk_109 : decode cX11_walk 109 = .ok (.iload_n 1, 1) := by decide +kernel
theorem dX11_walk_110 : decode cX11_walk 110 = .ok (.if_icmp .ne 28, 3) := by decide +kernel
theorem dX11_walk_113 : decode cX11_walk 113 = .ok (.aload_n 0, 1) := by decide +kernel
theorem dX11_walk_114 : decode cX11_walk 114 = .ok (.getfield 62, 3) := by decide +kernel
theorem dX11_walk_117 : decode cX11_walk 117 = .ok (.iload_n 2, 1) := by decide +kernel
theorem dX11_walk_118 : decode cX11_walk 118 = .ok (.aload_n 0, 1) := by decide +kernel
theorem dX11_walk_119 : decode cX11_walk 119 = .ok (.getfield 65, 3) := by decide +kernel
theorem dX11_walk_122 : decode cX11_walk 122 = .ok (.iload_n 2, 1) := by decide +kernel
theorem dX11_walk_123 : decode cX11_walk 123 = .ok (.iaload, 1) := by decide +kernel
theorem dX11_walk_124 : decode cX11_walk 124 = .ok (.iastore, 1) := by decide +kernel
theorem dX11_walk_125 : decode cX11_walk 125 = .ok (.aload_n 0, 1) := by decide +kernel
theorem dX11_walk_126 : decode cX11_walk 126 = .ok (.getfield 65, 3) := by decide +kernel
theorem dX11_walk_129 : decode cX11_walk 129 = .ok (.iload_n 2, 1) := by decide +kernel
theorem dX11_walk_130 : decode cX11_walk 130 = .ok (.dup2, 1) := by decide +kernel
theorem dX11_walk_131 : decode cX11_walk 131 = .ok (.iaload, 1) := by decide +kernel
theorem dX11_walk_132 : decode cX11_walk 132 = .ok (.iconst 1, 1) := by decide +kernel
theorem dX11_walk_133 : decode cX11_walk 133 = .ok (.iadd, 1) := by decide +kernel
theorem dX11_walk_134 : decode cX11_walk 134 = .ok (.iastore, 1) := by decide +kernel
theorem dX11_walk_135 : decode cX11_walk 135 = .ok (.goto 39, 3) := by decide +kernel
theorem dX11_walk_138 : decode cX11_walk 138 = .ok (.aload_n 0, 1) := by decide +kernel
theorem dX11_walk_139 : decode cX11_walk 139 = .ok (.getfield 62, 3) := by decide +kernel
theorem dX11_walk_142 : decode cX11_walk 142 = .ok (.iload_n 2, 1) := by decide +kernel
theorem dX11_walk_143 : decode cX11_walk 143 = .ok (.iaload, 1) := by decide +kernel
theorem dX11_walk_144 : decode cX11_walk 144 = .ok (.iconst (-1), 1) := by decide +kernel
theorem dX11_walk_145 : decode cX11_walk 145 = .ok (.if_icmp .eq 29, 3) := by decide +kernel
theorem dX11_walk_148 : decode cX11_walk 148 = .ok (.aload_n 0, 1) := by decide +kernel
theorem dX11_walk_149 : decode cX11_walk 149 = .ok (.getfield 24, 3) := by decide +kernel
theorem dX11_walk_152 : decode cX11_walk 152 = .ok (.iload_n 2, 1) := by decide +kernel
theorem dX11_walk_153 : decode cX11_walk 153 = .ok (.aaload, 1) := by decide +kernel
theorem dX11_walk_154 : decode cX11_walk 154 = .ok (.aload_n 0, 1) := by decide +kernel
theorem dX11_walk_155 : decode cX11_walk 155 = .ok (.getfield 62, 3) := by decide +kernel
theorem dX11_walk_158 : decode cX11_walk 158 = .ok (.iload_n 2, 1) := by decide +kernel
theorem dX11_walk_159 : decode cX11_walk 159 = .ok (.iaload, 1) := by decide +kernel
theorem dX11_walk_160 : decode cX11_walk 160 = .ok (.invokevirtual 208, 3) := by decide +kernel
theorem dX11_walk_163 : decode cX11_walk 163 = .ok (.iload_n 1, 1) := by decide +kernel
theorem dX11_walk_164 : decode cX11_walk 164 = .ok (.if_icmp .gt 10, 3) := by decide +kernel
theorem dX11_walk_167 : decode cX11_walk 167 = .ok (.aload_n 0, 1) := by decide +kernel
theorem dX11_walk_168 : decode cX11_walk 168 = .ok (.getfield 62, 3) := by decide +kernel
theorem dX11_walk_171 : decode cX11_walk 171 = .ok (.iload_n 2, 1) := by decide +kernel
theorem dX11_walk_172 : decode cX11_walk 172 = .ok (.iconst (-1), 1) := by decide +kernel
theorem dX11_walk_173 : decode cX11_walk 173 = .ok (.iastore, 1) := by decide +kernel
theorem dX11_walk_174 : decode cX11_walk 174 = .ok (.iinc 2 1, 3) := by decide +kernel
theorem dX11_walk_177 : decode cX11_walk 177 = .ok (.goto (-107), 3) := by decide +kernel
theorem dX11_walk_180 : decode cX11_walk 180 = .ok (.iconst 1, 1) := by decide +kernel
theorem dX11_walk_181 : decode cX11_walk 181 = .ok (.ireturn, 1) := by decide +kernel
theorem dX11_soundsNow_0 : decode cX11_soundsNow 0 = .ok (.aload_n 0, 1) := by decide +kernel
theorem dX11_soundsNow_1 : decode cX11_soundsNow 1 = .ok (.getfield 62, 3) := by decide +kernel
theorem dX11_soundsNow_4 : decode cX11_soundsNow 4 = .ok (.iload_n 1, 1) := by decide +kernel
theorem dX11_soundsNow_5 : decode cX11_soundsNow 5 = .ok (.iaload, 1) := by decide +kernel
theorem dX11_soundsNow_6 : decode cX11_soundsNow 6 = .ok (.iconst (-1), 1) := by decide +kernel
theorem dX11_soundsNow_7 : decode cX11_soundsNow 7 = .ok (.if_icmp .ne 7, 3) := by decide +kernel
theorem dX11_soundsNow_10 : decode cX11_soundsNow 10 = .ok (.iconst (-1), 1) := by decide +kernel
theorem dX11_soundsNow_11 : decode cX11_soundsNow 11 = .ok (.goto 14, 3) := by decide +kernel
theorem dX11_soundsNow_14 : decode cX11_soundsNow 14 = .ok (.aload_n 0, 1) := by decide +kernel
theorem dX11_soundsNow_15 : decode cX11_soundsNow 15 = .ok (.iload_n 1, 1) := by decide +kernel
theorem dX11_soundsNow_16 : decode cX11_soundsNow 16 = .ok (.aload_n 0, 1) := by decide +kernel
theorem dX11_soundsNow_17 : decode cX11_soundsNow 17 = .ok (.getfield 62, 3) := by decide +kernel
theorem dX11_soundsNow_20 : decode cX11_soundsNow 20 = .ok (.iload_n 1, 1) := by decide +kernel
theorem dX11_soundsNow_21 : decode cX11_soundsNow 21 = .ok (.iaload, 1) := by decide +kernel
theorem dX11_soundsNow_22 : decode cX11_soundsNow 22 = .ok (.invokevirtual 172, 3) := by decide +kernel
theorem dX11_soundsNow_25 : decode cX11_soundsNow 25 = .ok (.ireturn, 1) := by decide +kernel
theorem dX11_begins_0 : decode cX11_begins 0 = .ok (.aload_n 0, 1) := by decide +kernel
theorem dX11_begins_1 : decode cX11_begins 1 = .ok (.getfield 62, 3) := by decide +kernel
theorem dX11_begins_4 : decode cX11_begins 4 = .ok (.iload_n 1, 1) := by decide +kernel
theorem dX11_begins_5 : decode cX11_begins 5 = .ok (.iaload, 1) := by decide +kernel
theorem dX11_begins_6 : decode cX11_begins 6 = .ok (.iconst (-1), 1) := by decide +kernel
theorem dX11_begins_7 : decode cX11_begins 7 = .ok (.if_icmp .eq 30, 3) := by decide +kernel
theorem dX11_begins_10 : decode cX11_begins 10 = .ok (.aload_n 0, 1) := by decide +kernel
theorem dX11_begins_11 : decode cX11_begins 11 = .ok (.getfield 24, 3) := by decide +kernel
theorem dX11_begins_14 : decode cX11_begins 14 = .ok (.iload_n 1, 1) := by decide +kernel
theorem dX11_begins_15 : decode cX11_begins 15 = .ok (.aaload, 1) := by decide +kernel
theorem dX11_begins_16 : decode cX11_begins 16 = .ok (.getfield 170, 3) := by decide +kernel
theorem dX11_begins_19 : decode cX11_begins 19 = .ok (.aload_n 0, 1) := by decide +kernel
theorem dX11_begins_20 : decode cX11_begins 20 = .ok (.getfield 62, 3) := by decide +kernel
theorem dX11_begins_23 : decode cX11_begins 23 = .ok (.iload_n 1, 1) := by decide +kernel
theorem dX11_begins_24 : decode cX11_begins 24 = .ok (.iaload, 1) := by decide +kernel
theorem dX11_begins_25 : decode cX11_begins 25 = .ok (.iaload, 1) := by decide +kernel
theorem dX11_begins_26 : decode cX11_begins 26 = .ok (.aload_n 0, 1) := by decide +kernel
theorem dX11_begins_27 : decode cX11_begins 27 = .ok (.getfield 239, 3) := by decide +kernel
theorem dX11_begins_30 : decode cX11_begins 30 = .ok (.if_icmp .ne 7, 3) := by decide +kernel
theorem dX11_begins_33 : decode cX11_begins 33 = .ok (.iconst 1, 1) := by decide +kernel
theorem dX11_begins_34 : decode cX11_begins 34 = .ok (.goto 4, 3) := by decide +kernel
theorem dX11_begins_37 : decode cX11_begins 37 = .ok (.iconst 0, 1) := by decide +kernel
theorem dX11_begins_38 : decode cX11_begins 38 = .ok (.ireturn, 1) := by decide +kernel
theorem dX11_momentsNow_0 : decode cX11_momentsNow 0 = .ok (.iconst 0, 1) := by decide +kernel
theorem dX11_momentsNow_1 : decode cX11_momentsNow 1 = .ok (.istore_n 1, 1) := by decide +kernel
theorem dX11_momentsNow_2 : decode cX11_momentsNow 2 = .ok (.aload_n 0, 1) := by decide +kernel
theorem dX11_momentsNow_3 : decode cX11_momentsNow 3 = .ok (.invokevirtual 245, 3) := by decide +kernel
theorem dX11_momentsNow_6 : decode cX11_momentsNow 6 = .ok (.aload_n 0, 1) := by decide +kernel
theorem dX11_momentsNow_7 : decode cX11_momentsNow 7 = .ok (.invokevirtual 248, 3) := by decide +kernel
theorem dX11_momentsNow_10 : decode cX11_momentsNow 10 = .ok (.ifCond .eq 9, 3) := by decide +kernel
theorem dX11_momentsNow_13 : decode cX11_momentsNow 13 = .ok (.iinc 1 1, 3) := by decide +kernel
theorem dX11_momentsNow_16 : decode cX11_momentsNow 16 = .ok (.goto (-10), 3) := by decide +kernel
theorem dX11_momentsNow_19 : decode cX11_momentsNow 19 = .ok (.iload_n 1, 1) := by decide +kernel
theorem dX11_momentsNow_20 : decode cX11_momentsNow 20 = .ok (.ireturn, 1) := by decide +kernel
theorem dX11_moments_0 : decode cX11_moments 0 = .ok (.aload_n 0, 1) := by decide +kernel
theorem dX11_moments_1 : decode cX11_moments 1 = .ok (.iconst 0, 1) := by decide +kernel
theorem dX11_moments_2 : decode cX11_moments 2 = .ok (.putfield 87, 3) := by decide +kernel
theorem dX11_moments_5 : decode cX11_moments 5 = .ok (.aload_n 0, 1) := by decide +kernel
theorem dX11_moments_6 : decode cX11_moments 6 = .ok (.invokevirtual 252, 3) := by decide +kernel
theorem dX11_moments_9 : decode cX11_moments 9 = .ok (.ireturn, 1) := by decide +kernel
theorem dX11_walkTo_0 : decode cX11_walkTo 0 = .ok (.aload_n 0, 1) := by decide +kernel
theorem dX11_walkTo_1 : decode cX11_walkTo 1 = .ok (.iconst 1, 1) := by decide +kernel
theorem dX11_walkTo_2 : decode cX11_walkTo 2 = .ok (.putfield 87, 3) := by decide +kernel
theorem dX11_walkTo_5 : decode cX11_walkTo 5 = .ok (.iload_n 1, 1) := by decide +kernel
theorem dX11_walkTo_6 : decode cX11_walkTo 6 = .ok (.ifCond .ge 5, 3) := by decide +kernel
theorem dX11_walkTo_9 : decode cX11_walkTo 9 = .ok (.iconst 0, 1) := by decide +kernel
theorem dX11_walkTo_10 : decode cX11_walkTo 10 = .ok (.ireturn, 1) := by decide +kernel
theorem dX11_walkTo_11 : decode cX11_walkTo 11 = .ok (.aload_n 0, 1) := by decide +kernel
theorem dX11_walkTo_12 : decode cX11_walkTo 12 = .ok (.invokevirtual 245, 3) := by decide +kernel
theorem dX11_walkTo_15 : decode cX11_walkTo 15 = .ok (.iload_n 1, 1) := by decide +kernel
theorem dX11_walkTo_16 : decode cX11_walkTo 16 = .ok (.istore_n 2, 1) := by decide +kernel
theorem dX11_walkTo_17 : decode cX11_walkTo 17 = .ok (.aload_n 0, 1) := by decide +kernel
theorem dX11_walkTo_18 : decode cX11_walkTo 18 = .ok (.invokevirtual 248, 3) := by decide +kernel
theorem dX11_walkTo_21 : decode cX11_walkTo 21 = .ok (.ifCond .eq 20, 3) := by decide +kernel
theorem dX11_walkTo_24 : decode cX11_walkTo 24 = .ok (.iload_n 2, 1) := by decide +kernel
theorem dX11_walkTo_25 : decode cX11_walkTo 25 = .ok (.ifCond .ne 10, 3) := by decide +kernel
theorem dX11_walkTo_28 : decode cX11_walkTo 28 = .ok (.aload_n 0, 1) := by decide +kernel
theorem dX11_walkTo_29 : decode cX11_walkTo 29 = .ok (.iconst 0, 1) := by decide +kernel
theorem dX11_walkTo_30 : decode cX11_walkTo 30 = .ok (.putfield 87, 3) := by decide +kernel
theorem dX11_walkTo_33 : decode cX11_walkTo 33 = .ok (.iconst 1, 1) := by decide +kernel
theorem dX11_walkTo_34 : decode cX11_walkTo 34 = .ok (.ireturn, 1) := by decide +kernel
theorem dX11_walkTo_35 : decode cX11_walkTo 35 = .ok (.iinc 2 (-1), 3) := by decide +kernel
theorem dX11_walkTo_38 : decode cX11_walkTo 38 = .ok (.goto (-21), 3) := by decide +kernel
theorem dX11_walkTo_41 : decode cX11_walkTo 41 = .ok (.iconst 0, 1) := by decide +kernel
theorem dX11_walkTo_42 : decode cX11_walkTo 42 = .ok (.ireturn, 1) := by decide +kernel
theorem dX11_tickOf_0 : decode cX11_tickOf 0 = .ok (.aload_n 0, 1) := by decide +kernel
theorem dX11_tickOf_1 : decode cX11_tickOf 1 = .ok (.iload_n 1, 1) := by decide +kernel
theorem dX11_tickOf_2 : decode cX11_tickOf 2 = .ok (.invokevirtual 255, 3) := by decide +kernel
theorem dX11_tickOf_5 : decode cX11_tickOf 5 = .ok (.ifCond .eq 10, 3) := by decide +kernel
theorem dX11_tickOf_8 : decode cX11_tickOf 8 = .ok (.aload_n 0, 1) := by decide +kernel
theorem dX11_tickOf_9 : decode cX11_tickOf 9 = .ok (.getfield 239, 3) := by decide +kernel
theorem dX11_tickOf_12 : decode cX11_tickOf 12 = .ok (.goto 4, 3) := by decide +kernel
theorem dX11_tickOf_15 : decode cX11_tickOf 15 = .ok (.iconst 0, 1) := by decide +kernel
theorem dX11_tickOf_16 : decode cX11_tickOf 16 = .ok (.ireturn, 1) := by decide +kernel
theorem dX11_sounds_0 : decode cX11_sounds 0 = .ok (.aload_n 0, 1) := by decide +kernel
theorem dX11_sounds_1 : decode cX11_sounds 1 = .ok (.iload_n 1, 1) := by decide +kernel
theorem dX11_sounds_2 : decode cX11_sounds 2 = .ok (.invokevirtual 255, 3) := by decide +kernel
theorem dX11_sounds_5 : decode cX11_sounds 5 = .ok (.ifCond .ne 5, 3) := by decide +kernel
theorem dX11_sounds_8 : decode cX11_sounds 8 = .ok (.iconst 0, 1) := by decide +kernel
theorem dX11_sounds_9 : decode cX11_sounds 9 = .ok (.ireturn, 1) := by decide +kernel
theorem dX11_sounds_10 : decode cX11_sounds 10 = .ok (.iload_n 2, 1) := by decide +kernel
theorem dX11_sounds_11 : decode cX11_sounds 11 = .ok (.invokestatic 95, 3) := by decide +kernel
theorem dX11_sounds_14 : decode cX11_sounds 14 = .ok (.ifCond .eq 11, 3) := by decide +kernel
theorem dX11_sounds_17 : decode cX11_sounds 17 = .ok (.aload_n 0, 1) := by decide +kernel
theorem dX11_sounds_18 : decode cX11_sounds 18 = .ok (.iload_n 2, 1) := by decide +kernel
theorem dX11_sounds_19 : decode cX11_sounds 19 = .ok (.invokevirtual 258, 3) := by decide +kernel
theorem dX11_sounds_22 : decode cX11_sounds 22 = .ok (.goto 8, 3) := by decide +kernel
theorem dX11_sounds_25 : decode cX11_sounds 25 = .ok (.aload_n 0, 1) := by decide +kernel
theorem dX11_sounds_26 : decode cX11_sounds 26 = .ok (.iconst 1, 1) := by decide +kernel
theorem dX11_sounds_27 : decode cX11_sounds 27 = .ok (.invokevirtual 115, 3) := by decide +kernel
theorem dX11_sounds_30 : decode cX11_sounds 30 = .ok (.ireturn, 1) := by decide +kernel
theorem dX11_findChord_0 : decode cX11_findChord 0 = .ok (.aload_n 0, 1) := by decide +kernel
theorem dX11_findChord_1 : decode cX11_findChord 1 = .ok (.iconst (-1), 1) := by decide +kernel
theorem dX11_findChord_2 : decode cX11_findChord 2 = .ok (.putfield 261, 3) := by decide +kernel
theorem dX11_findChord_5 : decode cX11_findChord 5 = .ok (.aload_n 0, 1) := by decide +kernel
theorem dX11_findChord_6 : decode cX11_findChord 6 = .ok (.iconst (-1), 1) := by decide +kernel
theorem dX11_findChord_7 : decode cX11_findChord 7 = .ok (.putfield 264, 3) := by decide +kernel
theorem dX11_findChord_10 : decode cX11_findChord 10 = .ok (.aload_n 0, 1) := by decide +kernel
theorem dX11_findChord_11 : decode cX11_findChord 11 = .ok (.iconst (-1), 1) := by decide +kernel
theorem dX11_findChord_12 : decode cX11_findChord 12 = .ok (.putfield 267, 3) := by decide +kernel
theorem dX11_findChord_15 : decode cX11_findChord 15 = .ok (.iconst 0, 1) := by decide +kernel
theorem dX11_findChord_16 : decode cX11_findChord 16 = .ok (.istore_n 1, 1) := by decide +kernel
theorem dX11_findChord_17 : decode cX11_findChord 17 = .ok (.iconst (-1), 1) := by decide +kernel
theorem dX11_findChord_18 : decode cX11_findChord 18 = .ok (.istore_n 2, 1) := by decide +kernel
theorem dX11_findChord_19 : decode cX11_findChord 19 = .ok (.iconst 0, 1) := by decide +kernel
theorem dX11_findChord_20 : decode cX11_findChord 20 = .ok (.istore_n 3, 1) := by decide +kernel
theorem dX11_findChord_21 : decode cX11_findChord 21 = .ok (.iload_n 3, 1) := by decide +kernel
theorem dX11_findChord_22 : decode cX11_findChord 22 = .ok (.iconst 4, 1) := by decide +kernel
theorem dX11_findChord_23 : decode cX11_findChord 23 = .ok (.if_icmp .ge 49, 3) := by decide +kernel
theorem dX11_findChord_26 : decode cX11_findChord 26 = .ok (.aload_n 0, 1) := by decide +kernel
theorem dX11_findChord_27 : decode cX11_findChord 27 = .ok (.iload_n 3, 1) := by decide +kernel
theorem dX11_findChord_28 : decode cX11_findChord 28 = .ok (.invokevirtual 258, 3) := by decide +kernel
theorem dX11_findChord_31 : decode cX11_findChord 31 = .ok (.istore 4, 2) := by decide +kernel
theorem dX11_findChord_33 : decode cX11_findChord 33 = .ok (.iload 4, 2) := by decide +kernel
theorem dX11_findChord_35 : decode cX11_findChord 35 = .ok (.iconst (-1), 1) := by decide +kernel
theorem dX11_findChord_36 : decode cX11_findChord 36 = .ok (.if_icmp .ne 6, 3) := by decide +kernel
theorem dX11_findChord_39 : decode cX11_findChord 39 = .ok (.goto 27, 3) := by decide +kernel
theorem dX11_findChord_42 : decode cX11_findChord 42 = .ok (.iload_n 1, 1) := by decide +kernel
theorem dX11_findChord_43 : decode cX11_findChord 43 = .ok (.iconst 1, 1) := by decide +kernel
theorem dX11_findChord_44 : decode cX11_findChord 44 = .ok (.iload 4, 2) := by decide +kernel
theorem dX11_findChord_46 : decode cX11_findChord 46 = .ok (.bipush 12, 2) := by decide +kernel
theorem dX11_findChord_48 : decode cX11_findChord 48 = .ok (.irem, 1) := by decide +kernel
theorem dX11_findChord_49 : decode cX11_findChord 49 = .ok (.ishl, 1) := by decide +kernel
theorem dX11_findChord_50 : decode cX11_findChord 50 = .ok (.ior, 1) := by decide +kernel
theorem dX11_findChord_51 : decode cX11_findChord 51 = .ok (.istore_n 1, 1) := by decide +kernel
theorem dX11_findChord_52 : decode cX11_findChord 52 = .ok (.iload_n 2, 1) := by decide +kernel
theorem dX11_findChord_53 : decode cX11_findChord 53 = .ok (.iconst (-1), 1) := by decide +kernel
theorem dX11_findChord_54 : decode cX11_findChord 54 = .ok (.if_icmp .eq 9, 3) := by decide +kernel
theorem dX11_findChord_57 : decode cX11_findChord 57 = .ok (.iload 4, 2) := by decide +kernel
theorem dX11_findChord_59 : decode cX11_findChord 59 = .ok (.iload_n 2, 1) := by decide +kernel
theorem dX11_findChord_60 : decode cX11_findChord 60 = .ok (.if_icmp .ge 6, 3) := by decide +kernel
theorem dX11_findChord_63 : decode cX11_findChord 63 = .ok (.iload 4, 2) := by decide +kernel
theorem dX11_findChord_65 : decode cX11_findChord 65 = .ok (.istore_n 2, 1) := by decide +kernel
theorem dX11_findChord_66 : decode cX11_findChord 66 = .ok (.iinc 3 1, 3) := by decide +kernel
theorem dX11_findChord_69 : decode cX11_findChord 69 = .ok (.goto (-48), 3) := by decide +kernel
theorem dX11_findChord_72 : decode cX11_findChord 72 = .ok (.iconst 4, 1) := by decide +kernel
theorem dX11_findChord_73 : decode cX11_findChord 73 = .ok (.newarray .int, 2) := by decide +kernel
theorem dX11_findChord_75 : decode cX11_findChord 75 = .ok (.dup, 1) := by decide +kernel
theorem dX11_findChord_76 : decode cX11_findChord 76 = .ok (.iconst 0, 1) := by decide +kernel
theorem dX11_findChord_77 : decode cX11_findChord 77 = .ok (.iconst 4, 1) := by decide +kernel
theorem dX11_findChord_78 : decode cX11_findChord 78 = .ok (.iastore, 1) := by decide +kernel
theorem dX11_findChord_79 : decode cX11_findChord 79 = .ok (.dup, 1) := by decide +kernel
theorem dX11_findChord_80 : decode cX11_findChord 80 = .ok (.iconst 1, 1) := by decide +kernel
theorem dX11_findChord_81 : decode cX11_findChord 81 = .ok (.iconst 3, 1) := by decide +kernel
theorem dX11_findChord_82 : decode cX11_findChord 82 = .ok (.iastore, 1) := by decide +kernel
theorem dX11_findChord_83 : decode cX11_findChord 83 = .ok (.dup, 1) := by decide +kernel
theorem dX11_findChord_84 : decode cX11_findChord 84 = .ok (.iconst 2, 1) := by decide +kernel
theorem dX11_findChord_85 : decode cX11_findChord 85 = .ok (.iconst 3, 1) := by decide +kernel
theorem dX11_findChord_86 : decode cX11_findChord 86 = .ok (.iastore, 1) := by decide +kernel
theorem dX11_findChord_87 : decode cX11_findChord 87 = .ok (.dup, 1) := by decide +kernel
theorem dX11_findChord_88 : decode cX11_findChord 88 = .ok (.iconst 3, 1) := by decide +kernel
theorem dX11_findChord_89 : decode cX11_findChord 89 = .ok (.iconst 4, 1) := by decide +kernel
theorem dX11_findChord_90 : decode cX11_findChord 90 = .ok (.iastore, 1) := by decide +kernel
theorem dX11_findChord_91 : decode cX11_findChord 91 = .ok (.astore_n 3, 1) := by decide +kernel
theorem dX11_findChord_92 : decode cX11_findChord 92 = .ok (.iconst 4, 1) := by decide +kernel
theorem dX11_findChord_93 : decode cX11_findChord 93 = .ok (.newarray .int, 2) := by decide +kernel
theorem dX11_findChord_95 : decode cX11_findChord 95 = .ok (.dup, 1) := by decide +kernel
theorem dX11_findChord_96 : decode cX11_findChord 96 = .ok (.iconst 0, 1) := by decide +kernel
theorem dX11_findChord_97 : decode cX11_findChord 97 = .ok (.bipush 7, 2) := by decide +kernel
theorem dX11_findChord_99 : decode cX11_findChord 99 = .ok (.iastore, 1) := by decide +kernel
theorem dX11_findChord_100 : decode cX11_findChord 100 = .ok (.dup, 1) := by decide +kernel
theorem dX11_findChord_101 : decode cX11_findChord 101 = .ok (.iconst 1, 1) := by decide +kernel
theorem dX11_findChord_102 : decode cX11_findChord 102 = .ok (.bipush 7, 2) := by decide +kernel
theorem dX11_findChord_104 : decode cX11_findChord 104 = .ok (.iastore, 1) := by decide +kernel
theorem dX11_findChord_105 : decode cX11_findChord 105 = .ok (.dup, 1) := by decide +kernel
theorem dX11_findChord_106 : decode cX11_findChord 106 = .ok (.iconst 2, 1) := by decide +kernel
theorem dX11_findChord_107 : decode cX11_findChord 107 = .ok (.bipush 6, 2) := by decide +kernel
theorem dX11_findChord_109 : decode cX11_findChord 109 = .ok (.iastore, 1) := by decide +kernel
theorem dX11_findChord_110 : decode cX11_findChord 110 = .ok (.dup, 1) := by decide +kernel
theorem dX11_findChord_111 : decode cX11_findChord 111 = .ok (.iconst 3, 1) := by decide +kernel
theorem dX11_findChord_112 : decode cX11_findChord 112 = .ok (.bipush 8, 2) := by decide +kernel
theorem dX11_findChord_114 : decode cX11_findChord 114 = .ok (.iastore, 1) := by decide +kernel
theorem dX11_findChord_115 : decode cX11_findChord 115 = .ok (.astore 4, 2) := by decide +kernel
theorem dX11_findChord_117 : decode cX11_findChord 117 = .ok (.iconst 0, 1) := by decide +kernel
theorem dX11_findChord_118 : decode cX11_findChord 118 = .ok (.istore 5, 2) := by decide +kernel
theorem dX11_findChord_120 : decode cX11_findChord 120 = .ok (.iload 5, 2) := by decide +kernel
theorem dX11_findChord_122 : decode cX11_findChord 122 = .ok (.iconst 4, 1) := by decide +kernel
theorem dX11_findChord_123 : decode cX11_findChord 123 = .ok (.if_icmp .ge 134, 3) := by decide +kernel
theorem dX11_findChord_126 : decode cX11_findChord 126 = .ok (.iload_n 2, 1) := by decide +kernel
theorem dX11_findChord_127 : decode cX11_findChord 127 = .ok (.iconst (-1), 1) := by decide +kernel
theorem dX11_findChord_128 : decode cX11_findChord 128 = .ok (.if_icmp .eq 129, 3) := by decide +kernel
theorem dX11_findChord_131 : decode cX11_findChord 131 = .ok (.iconst 0, 1) := by decide +kernel
theorem dX11_findChord_132 : decode cX11_findChord 132 = .ok (.istore 6, 2) := by decide +kernel
theorem dX11_findChord_134 : decode cX11_findChord 134 = .ok (.iload 6, 2) := by decide +kernel
theorem dX11_findChord_136 : decode cX11_findChord 136 = .ok (.bipush 12, 2) := by decide +kernel
theorem dX11_findChord_138 : decode cX11_findChord 138 = .ok (.if_icmp .ge 113, 3) := by decide +kernel
theorem dX11_findChord_141 : decode cX11_findChord 141 = .ok (.iload_n 1, 1) := by decide +kernel
theorem dX11_findChord_142 : decode cX11_findChord 142 = .ok (.iconst 1, 1) := by decide +kernel
theorem dX11_findChord_143 : decode cX11_findChord 143 = .ok (.iload 6, 2) := by decide +kernel
theorem dX11_findChord_145 : decode cX11_findChord 145 = .ok (.ishl, 1) := by decide +kernel
theorem dX11_findChord_146 : decode cX11_findChord 146 = .ok (.iconst 1, 1) := by decide +kernel
theorem dX11_findChord_147 : decode cX11_findChord 147 = .ok (.iload 6, 2) := by decide +kernel
theorem dX11_findChord_149 : decode cX11_findChord 149 = .ok (.aload_n 3, 1) := by decide +kernel
theorem dX11_findChord_150 : decode cX11_findChord 150 = .ok (.iload 5, 2) := by decide +kernel
theorem dX11_findChord_152 : decode cX11_findChord 152 = .ok (.iaload, 1) := by decide +kernel
theorem dX11_findChord_153 : decode cX11_findChord 153 = .ok (.iadd, 1) := by decide +kernel
theorem dX11_findChord_154 : decode cX11_findChord 154 = .ok (.bipush 12, 2) := by decide +kernel
theorem dX11_findChord_156 : decode cX11_findChord 156 = .ok (.irem, 1) := by decide +kernel
theorem dX11_findChord_157 : decode cX11_findChord 157 = .ok (.ishl, 1) := by decide +kernel
theorem dX11_findChord_158 : decode cX11_findChord 158 = .ok (.ior, 1) := by decide +kernel
theorem dX11_findChord_159 : decode cX11_findChord 159 = .ok (.iconst 1, 1) := by decide +kernel
theorem dX11_findChord_160 : decode cX11_findChord 160 = .ok (.iload 6, 2) := by decide +kernel
theorem dX11_findChord_162 : decode cX11_findChord 162 = .ok (.aload 4, 2) := by decide +kernel
theorem dX11_findChord_164 : decode cX11_findChord 164 = .ok (.iload 5, 2) := by decide +kernel
theorem dX11_findChord_166 : decode cX11_findChord 166 = .ok (.iaload, 1) := by decide +kernel
theorem dX11_findChord_167 : decode cX11_findChord 167 = .ok (.iadd, 1) := by decide +kernel
theorem dX11_findChord_168 : decode cX11_findChord 168 = .ok (.bipush 12, 2) := by decide +kernel
theorem dX11_findChord_170 : decode cX11_findChord 170 = .ok (.irem, 1) := by decide +kernel
theorem dX11_findChord_171 : decode cX11_findChord 171 = .ok (.ishl, 1) := by decide +kernel
theorem dX11_findChord_172 : decode cX11_findChord 172 = .ok (.ior, 1) := by decide +kernel
theorem dX11_findChord_173 : decode cX11_findChord 173 = .ok (.if_icmp .ne 72, 3) := by decide +kernel
theorem dX11_findChord_176 : decode cX11_findChord 176 = .ok (.iload 5, 2) := by decide +kernel
theorem dX11_findChord_178 : decode cX11_findChord 178 = .ok (.iconst 3, 1) := by decide +kernel
theorem dX11_findChord_179 : decode cX11_findChord 179 = .ok (.if_icmp .ne 15, 3) := by decide +kernel
theorem dX11_findChord_182 : decode cX11_findChord 182 = .ok (.iload 6, 2) := by decide +kernel
theorem dX11_findChord_184 : decode cX11_findChord 184 = .ok (.iload_n 2, 1) := by decide +kernel
theorem dX11_findChord_185 : decode cX11_findChord 185 = .ok (.bipush 12, 2) := by decide +kernel
theorem dX11_findChord_187 : decode cX11_findChord 187 = .ok (.irem, 1) := by decide +kernel
theorem dX11_findChord_188 : decode cX11_findChord 188 = .ok (.if_icmp .eq 6, 3) := by decide +kernel
theorem dX11_findChord_191 : decode cX11_findChord 191 = .ok (.goto 54, 3) := by decide +kernel
theorem dX11_findChord_194 : decode cX11_findChord 194 = .ok (.aload_n 0, 1) := by decide +kernel
theorem dX11_findChord_195 : decode cX11_findChord 195 = .ok (.iload 6, 2) := by decide +kernel
theorem dX11_findChord_197 : decode cX11_findChord 197 = .ok (.putfield 261, 3) := by decide +kernel
theorem dX11_findChord_200 : decode cX11_findChord 200 = .ok (.aload_n 0, 1) := by decide +kernel
theorem dX11_findChord_201 : decode cX11_findChord 201 = .ok (.iload 5, 2) := by decide +kernel
theorem dX11_findChord_203 : decode cX11_findChord 203 = .ok (.putfield 264, 3) := by decide +kernel
theorem dX11_findChord_206 : decode cX11_findChord 206 = .ok (.aload_n 0, 1) := by decide +kernel
theorem dX11_findChord_207 : decode cX11_findChord 207 = .ok (.iload_n 2, 1) := by decide +kernel
theorem dX11_findChord_208 : decode cX11_findChord 208 = .ok (.bipush 12, 2) := by decide +kernel
theorem dX11_findChord_210 : decode cX11_findChord 210 = .ok (.irem, 1) := by decide +kernel
theorem dX11_findChord_211 : decode cX11_findChord 211 = .ok (.iload 6, 2) := by decide +kernel
theorem dX11_findChord_213 : decode cX11_findChord 213 = .ok (.if_icmp .ne 7, 3) := by decide +kernel
theorem dX11_findChord_216 : decode cX11_findChord 216 = .ok (.iconst 0, 1) := by decide +kernel
theorem dX11_findChord_217 : decode cX11_findChord 217 = .ok (.goto 25, 3) := by decide +kernel
theorem dX11_findChord_220 : decode cX11_findChord 220 = .ok (.iload_n 2, 1) := by decide +kernel
theorem dX11_findChord_221 : decode cX11_findChord 221 = .ok (.bipush 12, 2) := by decide +kernel
theorem dX11_findChord_223 : decode cX11_findChord 223 = .ok (.irem, 1) := by decide +kernel
theorem dX11_findChord_224 : decode cX11_findChord 224 = .ok (.iload 6, 2) := by decide +kernel
theorem dX11_findChord_226 : decode cX11_findChord 226 = .ok (.aload_n 3, 1) := by decide +kernel
theorem dX11_findChord_227 : decode cX11_findChord 227 = .ok (.iload 5, 2) := by decide +kernel
theorem dX11_findChord_229 : decode cX11_findChord 229 = .ok (.iaload, 1) := by decide +kernel
theorem dX11_findChord_230 : decode cX11_findChord 230 = .ok (.iadd, 1) := by decide +kernel
theorem dX11_findChord_231 : decode cX11_findChord 231 = .ok (.bipush 12, 2) := by decide +kernel
theorem dX11_findChord_233 : decode cX11_findChord 233 = .ok (.irem, 1) := by decide +kernel
theorem dX11_findChord_234 : decode cX11_findChord 234 = .ok (.if_icmp .ne 7, 3) := by decide +kernel
theorem dX11_findChord_237 : decode cX11_findChord 237 = .ok (.iconst 1, 1) := by decide +kernel
theorem dX11_findChord_238 : decode cX11_findChord 238 = .ok (.goto 4, 3) := by decide +kernel
theorem dX11_findChord_241 : decode cX11_findChord 241 = .ok (.iconst 2, 1) := by decide +kernel
theorem dX11_findChord_242 : decode cX11_findChord 242 = .ok (.putfield 267, 3) := by decide +kernel
theorem dX11_findChord_245 : decode cX11_findChord 245 = .ok (.iinc 6 1, 3) := by decide +kernel
theorem dX11_findChord_248 : decode cX11_findChord 248 = .ok (.goto (-114), 3) := by decide +kernel
theorem dX11_findChord_251 : decode cX11_findChord 251 = .ok (.iinc 5 1, 3) := by decide +kernel
theorem dX11_findChord_254 : decode cX11_findChord 254 = .ok (.goto (-134), 3) := by decide +kernel
theorem dX11_findChord_257 : decode cX11_findChord 257 = .ok (.return_, 1) := by decide +kernel
theorem dX11_root_0 : decode cX11_root 0 = .ok (.aload_n 0, 1) := by decide +kernel
theorem dX11_root_1 : decode cX11_root 1 = .ok (.iload_n 1, 1) := by decide +kernel
theorem dX11_root_2 : decode cX11_root 2 = .ok (.invokevirtual 255, 3) := by decide +kernel
theorem dX11_root_5 : decode cX11_root 5 = .ok (.ifCond .ne 5, 3) := by decide +kernel
theorem dX11_root_8 : decode cX11_root 8 = .ok (.iconst 0, 1) := by decide +kernel
theorem dX11_root_9 : decode cX11_root 9 = .ok (.ireturn, 1) := by decide +kernel
theorem dX11_root_10 : decode cX11_root 10 = .ok (.aload_n 0, 1) := by decide +kernel
theorem dX11_root_11 : decode cX11_root 11 = .ok (.invokevirtual 270, 3) := by decide +kernel
theorem dX11_root_14 : decode cX11_root 14 = .ok (.aload_n 0, 1) := by decide +kernel
theorem dX11_root_15 : decode cX11_root 15 = .ok (.getfield 261, 3) := by decide +kernel
theorem dX11_root_18 : decode cX11_root 18 = .ok (.ireturn, 1) := by decide +kernel
theorem dX11_kind_0 : decode cX11_kind 0 = .ok (.aload_n 0, 1) := by decide +kernel
theorem dX11_kind_1 : decode cX11_kind 1 = .ok (.iload_n 1, 1) := by decide +kernel
theorem dX11_kind_2 : decode cX11_kind 2 = .ok (.invokevirtual 255, 3) := by decide +kernel
theorem dX11_kind_5 : decode cX11_kind 5 = .ok (.ifCond .ne 5, 3) := by decide +kernel
theorem dX11_kind_8 : decode cX11_kind 8 = .ok (.iconst 0, 1) := by decide +kernel
theorem dX11_kind_9 : decode cX11_kind 9 = .ok (.ireturn, 1) := by decide +kernel
theorem dX11_kind_10 : decode cX11_kind 10 = .ok (.aload_n 0, 1) := by decide +kernel
theorem dX11_kind_11 : decode cX11_kind 11 = .ok (.invokevirtual 270, 3) := by decide +kernel
theorem dX11_kind_14 : decode cX11_kind 14 = .ok (.aload_n 0, 1) := by decide +kernel
theorem dX11_kind_15 : decode cX11_kind 15 = .ok (.getfield 264, 3) := by decide +kernel
theorem dX11_kind_18 : decode cX11_kind 18 = .ok (.ireturn, 1) := by decide +kernel
theorem dX11_inversion_0 : decode cX11_inversion 0 = .ok (.aload_n 0, 1) := by decide +kernel
theorem dX11_inversion_1 : decode cX11_inversion 1 = .ok (.iload_n 1, 1) := by decide +kernel
theorem dX11_inversion_2 : decode cX11_inversion 2 = .ok (.invokevirtual 255, 3) := by decide +kernel
theorem dX11_inversion_5 : decode cX11_inversion 5 = .ok (.ifCond .ne 5, 3) := by decide +kernel
theorem dX11_inversion_8 : decode cX11_inversion 8 = .ok (.iconst 0, 1) := by decide +kernel
theorem dX11_inversion_9 : decode cX11_inversion 9 = .ok (.ireturn, 1) := by decide +kernel
theorem dX11_inversion_10 : decode cX11_inversion 10 = .ok (.aload_n 0, 1) := by decide +kernel
theorem dX11_inversion_11 : decode cX11_inversion 11 = .ok (.invokevirtual 270, 3) := by decide +kernel
theorem dX11_inversion_14 : decode cX11_inversion 14 = .ok (.aload_n 0, 1) := by decide +kernel
theorem dX11_inversion_15 : decode cX11_inversion 15 = .ok (.getfield 267, 3) := by decide +kernel
theorem dX11_inversion_18 : decode cX11_inversion 18 = .ok (.ireturn, 1) := by decide +kernel
theorem dX11_blame_0 : decode cX11_blame 0 = .ok (.aload_n 0, 1) := by decide +kernel
theorem dX11_blame_1 : decode cX11_blame 1 = .ok (.getfield 273, 3) := by decide +kernel
theorem dX11_blame_4 : decode cX11_blame 4 = .ok (.aload_n 0, 1) := by decide +kernel
theorem dX11_blame_5 : decode cX11_blame 5 = .ok (.getfield 276, 3) := by decide +kernel
theorem dX11_blame_8 : decode cX11_blame 8 = .ok (.if_icmp .ne 21, 3) := by decide +kernel
theorem dX11_blame_11 : decode cX11_blame 11 = .ok (.aload_n 0, 1) := by decide +kernel
theorem dX11_blame_12 : decode cX11_blame 12 = .ok (.iload_n 1, 1) := by decide +kernel
theorem dX11_blame_13 : decode cX11_blame 13 = .ok (.putfield 279, 3) := by decide +kernel
theorem dX11_blame_16 : decode cX11_blame 16 = .ok (.aload_n 0, 1) := by decide +kernel
theorem dX11_blame_17 : decode cX11_blame 17 = .ok (.aload_n 0, 1) := by decide +kernel
theorem dX11_blame_18 : decode cX11_blame 18 = .ok (.getfield 239, 3) := by decide +kernel
theorem dX11_blame_21 : decode cX11_blame 21 = .ok (.putfield 282, 3) := by decide +kernel
theorem dX11_blame_24 : decode cX11_blame 24 = .ok (.aload_n 0, 1) := by decide +kernel
theorem dX11_blame_25 : decode cX11_blame 25 = .ok (.iload_n 2, 1) := by decide +kernel
theorem dX11_blame_26 : decode cX11_blame 26 = .ok (.putfield 285, 3) := by decide +kernel
theorem dX11_blame_29 : decode cX11_blame 29 = .ok (.aload_n 0, 1) := by decide +kernel
theorem dX11_blame_30 : decode cX11_blame 30 = .ok (.dup, 1) := by decide +kernel
theorem dX11_blame_31 : decode cX11_blame 31 = .ok (.getfield 273, 3) := by decide +kernel
theorem dX11_blame_34 : decode cX11_blame 34 = .ok (.iconst 1, 1) := by decide +kernel
theorem dX11_blame_35 : decode cX11_blame 35 = .ok (.iadd, 1) := by decide +kernel
theorem dX11_blame_36 : decode cX11_blame 36 = .ok (.putfield 273, 3) := by decide +kernel
theorem dX11_blame_39 : decode cX11_blame 39 = .ok (.return_, 1) := by decide +kernel
theorem dX11_countFaults_0 : decode cX11_countFaults 0 = .ok (.aload_n 0, 1) := by decide +kernel
theorem dX11_countFaults_1 : decode cX11_countFaults 1 = .ok (.iload_n 1, 1) := by decide +kernel
theorem dX11_countFaults_2 : decode cX11_countFaults 2 = .ok (.putfield 276, 3) := by decide +kernel
theorem dX11_countFaults_5 : decode cX11_countFaults 5 = .ok (.aload_n 0, 1) := by decide +kernel
theorem dX11_countFaults_6 : decode cX11_countFaults 6 = .ok (.iconst 0, 1) := by decide +kernel
theorem dX11_countFaults_7 : decode cX11_countFaults 7 = .ok (.putfield 273, 3) := by decide +kernel
