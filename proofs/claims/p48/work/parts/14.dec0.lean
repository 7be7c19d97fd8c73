theorem dX0_init_0 : decode cX0_init 0 = .ok (.aload_n 0, 1) := by decide +kernel
theorem dX0_init_1 : decode cX0_init 1 = .ok (.invokespecial 3, 3) := by decide +kernel
theorem dX0_init_4 : decode cX0_init 4 = .ok (.aload_n 0, 1) := by decide +kernel
theorem dX0_init_5 : decode cX0_init 5 = .ok (.bipush 24, 2) := by decide +kernel
theorem dX0_init_7 : decode cX0_init 7 = .ok (.newarray .int, 2) := by decide +kernel
theorem dX0_init_9 : decode cX0_init 9 = .ok (.putfield 9, 3) := by decide +kernel
theorem dX0_init_12 : decode cX0_init 12 = .ok (.aload_n 0, 1) := by decide +kernel
theorem dX0_init_13 : decode cX0_init 13 = .ok (.bipush 24, 2) := by decide +kernel
theorem dX0_init_15 : decode cX0_init 15 = .ok (.newarray .int, 2) := by decide +kernel
theorem dX0_init_17 : decode cX0_init 17 = .ok (.putfield 15, 3) := by decide +kernel
theorem dX0_init_20 : decode cX0_init 20 = .ok (.aload_n 0, 1) := by decide +kernel
theorem dX0_init_21 : decode cX0_init 21 = .ok (.bipush 24, 2) := by decide +kernel
theorem dX0_init_23 : decode cX0_init 23 = .ok (.newarray .int, 2) := by decide +kernel
theorem dX0_init_25 : decode cX0_init 25 = .ok (.putfield 18, 3) := by decide +kernel
theorem dX0_init_28 : decode cX0_init 28 = .ok (.aload_n 0, 1) := by decide +kernel
theorem dX0_init_29 : decode cX0_init 29 = .ok (.bipush 24, 2) := by decide +kernel
theorem dX0_init_31 : decode cX0_init 31 = .ok (.newarray .int, 2) := by decide +kernel
theorem dX0_init_33 : decode cX0_init 33 = .ok (.putfield 21, 3) := by decide +kernel
theorem dX0_init_36 : decode cX0_init 36 = .ok (.aload_n 0, 1) := by decide +kernel
theorem dX0_init_37 : decode cX0_init 37 = .ok (.iconst 0, 1) := by decide +kernel
theorem dX0_init_38 : decode cX0_init 38 = .ok (.iconst 4, 1) := by decide +kernel
theorem dX0_init_39 : decode cX0_init 39 = .ok (.iconst 4, 1) := by decide +kernel
theorem dX0_init_40 : decode cX0_init 40 = .ok (.invokevirtual 24, 3) := by decide +kernel
theorem dX0_init_43 : decode cX0_init 43 = .ok (.return_, 1) := by decide +kernel
theorem dX0_isBar_0 : decode cX0_isBar 0 = .ok (.iload_n 0, 1) := by decide +kernel
theorem dX0_isBar_1 : decode cX0_isBar 1 = .ok (.ifCond .lt 13, 3) := by decide +kernel
theorem dX0_isBar_4 : decode cX0_isBar 4 = .ok (.iload_n 0, 1) := by decide +kernel
theorem dX0_isBar_5 : decode cX0_isBar 5 = .ok (.bipush 24, 2) := by decide +kernel
theorem dX0_isBar_7 : decode cX0_isBar 7 = .ok (.if_icmp .ge 7, 3) := by decide +kernel
theorem dX0_isBar_10 : decode cX0_isBar 10 = .ok (.iconst 1, 1) := by decide +kernel
theorem dX0_isBar_11 : decode cX0_isBar 11 = .ok (.goto 4, 3) := by decide +kernel
theorem dX0_isBar_14 : decode cX0_isBar 14 = .ok (.iconst 0, 1) := by decide +kernel
theorem dX0_isBar_15 : decode cX0_isBar 15 = .ok (.ireturn, 1) := by decide +kernel
theorem dX0_changeMetre_0 : decode cX0_changeMetre 0 = .ok (.iload_n 1, 1) := by decide +kernel
theorem dX0_changeMetre_1 : decode cX0_changeMetre 1 = .ok (.invokestatic 28, 3) := by decide +kernel
theorem dX0_changeMetre_4 : decode cX0_changeMetre 4 = .ok (.ifCond .eq 7, 3) := by decide +kernel
theorem dX0_changeMetre_7 : decode cX0_changeMetre 7 = .ok (.iload_n 3, 1) := by decide +kernel
theorem dX0_changeMetre_8 : decode cX0_changeMetre 8 = .ok (.ifCond .gt 4, 3) := by decide +kernel
theorem dX0_changeMetre_11 : decode cX0_changeMetre 11 = .ok (.return_, 1) := by decide +kernel
theorem dX0_changeMetre_12 : decode cX0_changeMetre 12 = .ok (.iload_n 1, 1) := by decide +kernel
theorem dX0_changeMetre_13 : decode cX0_changeMetre 13 = .ok (.istore 4, 2) := by decide +kernel
theorem dX0_changeMetre_15 : decode cX0_changeMetre 15 = .ok (.iload 4, 2) := by decide +kernel
theorem dX0_changeMetre_17 : decode cX0_changeMetre 17 = .ok (.bipush 24, 2) := by decide +kernel
theorem dX0_changeMetre_19 : decode cX0_changeMetre 19 = .ok (.if_icmp .ge 38, 3) := by decide +kernel
theorem dX0_changeMetre_22 : decode cX0_changeMetre 22 = .ok (.aload_n 0, 1) := by decide +kernel
theorem dX0_changeMetre_23 : decode cX0_changeMetre 23 = .ok (.getfield 9, 3) := by decide +kernel
theorem dX0_changeMetre_26 : decode cX0_changeMetre 26 = .ok (.iload 4, 2) := by decide +kernel
theorem dX0_changeMetre_28 : decode cX0_changeMetre 28 = .ok (.iload_n 2, 1) := by decide +kernel
theorem dX0_changeMetre_29 : decode cX0_changeMetre 29 = .ok (.iastore, 1) := by decide +kernel
theorem dX0_changeMetre_30 : decode cX0_changeMetre 30 = .ok (.aload_n 0, 1) := by decide +kernel
theorem dX0_changeMetre_31 : decode cX0_changeMetre 31 = .ok (.getfield 15, 3) := by decide +kernel
theorem dX0_changeMetre_34 : decode cX0_changeMetre 34 = .ok (.iload 4, 2) := by decide +kernel
theorem dX0_changeMetre_36 : decode cX0_changeMetre 36 = .ok (.iload_n 3, 1) := by decide +kernel
theorem dX0_changeMetre_37 : decode cX0_changeMetre 37 = .ok (.iastore, 1) := by decide +kernel
theorem dX0_changeMetre_38 : decode cX0_changeMetre 38 = .ok (.aload_n 0, 1) := by decide +kernel
theorem dX0_changeMetre_39 : decode cX0_changeMetre 39 = .ok (.getfield 18, 3) := by decide +kernel
theorem dX0_changeMetre_42 : decode cX0_changeMetre 42 = .ok (.iload 4, 2) := by decide +kernel
theorem dX0_changeMetre_44 : decode cX0_changeMetre 44 = .ok (.iload_n 2, 1) := by decide +kernel
theorem dX0_changeMetre_45 : decode cX0_changeMetre 45 = .ok (.bipush 64, 2) := by decide +kernel
theorem dX0_changeMetre_47 : decode cX0_changeMetre 47 = .ok (.imul, 1) := by decide +kernel
theorem dX0_changeMetre_48 : decode cX0_changeMetre 48 = .ok (.iload_n 3, 1) := by decide +kernel
theorem dX0_changeMetre_49 : decode cX0_changeMetre 49 = .ok (.idiv, 1) := by decide +kernel
theorem dX0_changeMetre_50 : decode cX0_changeMetre 50 = .ok (.iastore, 1) := by decide +kernel
theorem dX0_changeMetre_51 : decode cX0_changeMetre 51 = .ok (.iinc 4 1, 3) := by decide +kernel
theorem dX0_changeMetre_54 : decode cX0_changeMetre 54 = .ok (.goto (-39), 3) := by decide +kernel
theorem dX0_changeMetre_57 : decode cX0_changeMetre 57 = .ok (.aload_n 0, 1) := by decide +kernel
theorem dX0_changeMetre_58 : decode cX0_changeMetre 58 = .ok (.aload_n 0, 1) := by decide +kernel
theorem dX0_changeMetre_59 : decode cX0_changeMetre 59 = .ok (.bipush 24, 2) := by decide +kernel
theorem dX0_changeMetre_61 : decode cX0_changeMetre 61 = .ok (.invokevirtual 32, 3) := by decide +kernel
theorem dX0_changeMetre_64 : decode cX0_changeMetre 64 = .ok (.putfield 36, 3) := by decide +kernel
theorem dX0_changeMetre_67 : decode cX0_changeMetre 67 = .ok (.return_, 1) := by decide +kernel
theorem dX0_changeKey_0 : decode cX0_changeKey 0 = .ok (.iload_n 1, 1) := by decide +kernel
theorem dX0_changeKey_1 : decode cX0_changeKey 1 = .ok (.invokestatic 28, 3) := by decide +kernel
theorem dX0_changeKey_4 : decode cX0_changeKey 4 = .ok (.ifCond .ne 4, 3) := by decide +kernel
theorem dX0_changeKey_7 : decode cX0_changeKey 7 = .ok (.return_, 1) := by decide +kernel
theorem dX0_changeKey_8 : decode cX0_changeKey 8 = .ok (.iload_n 1, 1) := by decide +kernel
theorem dX0_changeKey_9 : decode cX0_changeKey 9 = .ok (.istore_n 3, 1) := by decide +kernel
theorem dX0_changeKey_10 : decode cX0_changeKey 10 = .ok (.iload_n 3, 1) := by decide +kernel
theorem dX0_changeKey_11 : decode cX0_changeKey 11 = .ok (.bipush 24, 2) := by decide +kernel
theorem dX0_changeKey_13 : decode cX0_changeKey 13 = .ok (.if_icmp .ge 16, 3) := by decide +kernel
theorem dX0_changeKey_16 : decode cX0_changeKey 16 = .ok (.aload_n 0, 1) := by decide +kernel
theorem dX0_changeKey_17 : decode cX0_changeKey 17 = .ok (.getfield 21, 3) := by decide +kernel
theorem dX0_changeKey_20 : decode cX0_changeKey 20 = .ok (.iload_n 3, 1) := by decide +kernel
theorem dX0_changeKey_21 : decode cX0_changeKey 21 = .ok (.iload_n 2, 1) := by decide +kernel
theorem dX0_changeKey_22 : decode cX0_changeKey 22 = .ok (.iastore, 1) := by decide +kernel
theorem dX0_changeKey_23 : decode cX0_changeKey 23 = .ok (.iinc 3 1, 3) := by decide +kernel
theorem dX0_changeKey_26 : decode cX0_changeKey 26 = .ok (.goto (-16), 3) := by decide +kernel
theorem dX0_changeKey_29 : decode cX0_changeKey 29 = .ok (.return_, 1) := by decide +kernel
theorem dX0_keyAt_0 : decode cX0_keyAt 0 = .ok (.iload_n 1, 1) := by decide +kernel
theorem dX0_keyAt_1 : decode cX0_keyAt 1 = .ok (.invokestatic 28, 3) := by decide +kernel
theorem dX0_keyAt_4 : decode cX0_keyAt 4 = .ok (.ifCond .eq 12, 3) := by decide +kernel
theorem dX0_keyAt_7 : decode cX0_keyAt 7 = .ok (.aload_n 0, 1) := by decide +kernel
theorem dX0_keyAt_8 : decode cX0_keyAt 8 = .ok (.getfield 21, 3) := by decide +kernel
theorem dX0_keyAt_11 : decode cX0_keyAt 11 = .ok (.iload_n 1, 1) := by decide +kernel
theorem dX0_keyAt_12 : decode cX0_keyAt 12 = .ok (.iaload, 1) := by decide +kernel
theorem dX0_keyAt_13 : decode cX0_keyAt 13 = .ok (.goto 4, 3) := by decide +kernel
theorem dX0_keyAt_16 : decode cX0_keyAt 16 = .ok (.iconst 0, 1) := by decide +kernel
theorem dX0_keyAt_17 : decode cX0_keyAt 17 = .ok (.ireturn, 1) := by decide +kernel
theorem dX0_lengthAt_0 : decode cX0_lengthAt 0 = .ok (.iload_n 1, 1) := by decide +kernel
theorem dX0_lengthAt_1 : decode cX0_lengthAt 1 = .ok (.invokestatic 28, 3) := by decide +kernel
theorem dX0_lengthAt_4 : decode cX0_lengthAt 4 = .ok (.ifCond .eq 12, 3) := by decide +kernel
theorem dX0_lengthAt_7 : decode cX0_lengthAt 7 = .ok (.aload_n 0, 1) := by decide +kernel
theorem dX0_lengthAt_8 : decode cX0_lengthAt 8 = .ok (.getfield 18, 3) := by decide +kernel
theorem dX0_lengthAt_11 : decode cX0_lengthAt 11 = .ok (.iload_n 1, 1) := by decide +kernel
theorem dX0_lengthAt_12 : decode cX0_lengthAt 12 = .ok (.iaload, 1) := by decide +kernel
theorem dX0_lengthAt_13 : decode cX0_lengthAt 13 = .ok (.goto 4, 3) := by decide +kernel
theorem dX0_lengthAt_16 : decode cX0_lengthAt 16 = .ok (.iconst 0, 1) := by decide +kernel
theorem dX0_lengthAt_17 : decode cX0_lengthAt 17 = .ok (.ireturn, 1) := by decide +kernel
theorem dX0_beginAt_0 : decode cX0_beginAt 0 = .ok (.iconst 0, 1) := by decide +kernel
theorem dX0_beginAt_1 : decode cX0_beginAt 1 = .ok (.istore_n 2, 1) := by decide +kernel
theorem dX0_beginAt_2 : decode cX0_beginAt 2 = .ok (.iconst 0, 1) := by decide +kernel
theorem dX0_beginAt_3 : decode cX0_beginAt 3 = .ok (.istore_n 3, 1) := by decide +kernel
theorem dX0_beginAt_4 : decode cX0_beginAt 4 = .ok (.iload_n 3, 1) := by decide +kernel
theorem dX0_beginAt_5 : decode cX0_beginAt 5 = .ok (.iload_n 1, 1) := by decide +kernel
theorem dX0_beginAt_6 : decode cX0_beginAt 6 = .ok (.if_icmp .ge 24, 3) := by decide +kernel
theorem dX0_beginAt_9 : decode cX0_beginAt 9 = .ok (.iload_n 3, 1) := by decide +kernel
theorem dX0_beginAt_10 : decode cX0_beginAt 10 = .ok (.bipush 24, 2) := by decide +kernel
theorem dX0_beginAt_12 : decode cX0_beginAt 12 = .ok (.if_icmp .ge 18, 3) := by decide +kernel
theorem dX0_beginAt_15 : decode cX0_beginAt 15 = .ok (.iload_n 2, 1) := by decide +kernel
theorem dX0_beginAt_16 : decode cX0_beginAt 16 = .ok (.aload_n 0, 1) := by decide +kernel
theorem dX0_beginAt_17 : decode cX0_beginAt 17 = .ok (.getfield 18, 3) := by decide +kernel
theorem dX0_beginAt_20 : decode cX0_beginAt 20 = .ok (.iload_n 3, 1) := by decide +kernel
theorem dX0_beginAt_21 : decode cX0_beginAt 21 = .ok (.iaload, 1) := by decide +kernel
theorem dX0_beginAt_22 : decode cX0_beginAt 22 = .ok (.iadd, 1) := by decide +kernel
theorem dX0_beginAt_23 : decode cX0_beginAt 23 = .ok (.istore_n 2, 1) := by decide +kernel
theorem dX0_beginAt_24 : decode cX0_beginAt 24 = .ok (.iinc 3 1, 3) := by decide +kernel
theorem dX0_beginAt_27 : decode cX0_beginAt 27 = .ok (.goto (-23), 3) := by decide +kernel
theorem dX0_beginAt_30 : decode cX0_beginAt 30 = .ok (.iload_n 2, 1) := by decide +kernel
theorem dX0_beginAt_31 : decode cX0_beginAt 31 = .ok (.ireturn, 1) := by decide +kernel
theorem dX0_end_0 : decode cX0_end 0 = .ok (.aload_n 0, 1) := by decide +kernel
theorem dX0_end_1 : decode cX0_end 1 = .ok (.getfield 36, 3) := by decide +kernel
theorem dX0_end_4 : decode cX0_end 4 = .ok (.ireturn, 1) := by decide +kernel
theorem dX0_barAt_0 : decode cX0_barAt 0 = .ok (.iconst 0, 1) := by decide +kernel
theorem dX0_barAt_1 : decode cX0_barAt 1 = .ok (.istore_n 2, 1) := by decide +kernel
theorem dX0_barAt_2 : decode cX0_barAt 2 = .ok (.iconst 0, 1) := by decide +kernel
theorem dX0_barAt_3 : decode cX0_barAt 3 = .ok (.istore_n 3, 1) := by decide +kernel
theorem dX0_barAt_4 : decode cX0_barAt 4 = .ok (.iload_n 3, 1) := by decide +kernel
theorem dX0_barAt_5 : decode cX0_barAt 5 = .ok (.bipush 24, 2) := by decide +kernel
theorem dX0_barAt_7 : decode cX0_barAt 7 = .ok (.if_icmp .ge 25, 3) := by decide +kernel
theorem dX0_barAt_10 : decode cX0_barAt 10 = .ok (.iload_n 2, 1) := by decide +kernel
theorem dX0_barAt_11 : decode cX0_barAt 11 = .ok (.aload_n 0, 1) := by decide +kernel
theorem dX0_barAt_12 : decode cX0_barAt 12 = .ok (.getfield 18, 3) := by decide +kernel
theorem dX0_barAt_15 : decode cX0_barAt 15 = .ok (.iload_n 3, 1) := by decide +kernel
theorem dX0_barAt_16 : decode cX0_barAt 16 = .ok (.iaload, 1) := by decide +kernel
theorem dX0_barAt_17 : decode cX0_barAt 17 = .ok (.iadd, 1) := by decide +kernel
theorem dX0_barAt_18 : decode cX0_barAt 18 = .ok (.istore_n 2, 1) := by decide +kernel
theorem dX0_barAt_19 : decode cX0_barAt 19 = .ok (.iload_n 1, 1) := by decide +kernel
theorem dX0_barAt_20 : decode cX0_barAt 20 = .ok (.iload_n 2, 1) := by decide +kernel
theorem dX0_barAt_21 : decode cX0_barAt 21 = .ok (.if_icmp .ge 5, 3) := by decide +kernel
theorem dX0_barAt_24 : decode cX0_barAt 24 = .ok (.iload_n 3, 1) := by decide +kernel
theorem dX0_barAt_25 : decode cX0_barAt 25 = .ok (.ireturn, 1) := by decide +kernel
theorem dX0_barAt_26 : decode cX0_barAt 26 = .ok (.iinc 3 1, 3) := by decide +kernel
theorem dX0_barAt_29 : decode cX0_barAt 29 = .ok (.goto (-25), 3) := by decide +kernel
theorem dX0_barAt_32 : decode cX0_barAt 32 = .ok (.iconst (-1), 1) := by decide +kernel
theorem dX0_barAt_33 : decode cX0_barAt 33 = .ok (.ireturn, 1) := by decide +kernel
theorem dX0_barsUpTo_0 : decode cX0_barsUpTo 0 = .ok (.iload_n 1, 1) := by decide +kernel
theorem dX0_barsUpTo_1 : decode cX0_barsUpTo 1 = .ok (.ifCond .gt 5, 3) := by decide +kernel
theorem dX0_barsUpTo_4 : decode cX0_barsUpTo 4 = .ok (.iconst 0, 1) := by decide +kernel
theorem dX0_barsUpTo_5 : decode cX0_barsUpTo 5 = .ok (.ireturn, 1) := by decide +kernel
theorem dX0_barsUpTo_6 : decode cX0_barsUpTo 6 = .ok (.iload_n 1, 1) := by decide +kernel
theorem dX0_barsUpTo_7 : decode cX0_barsUpTo 7 = .ok (.aload_n 0, 1) := by decide +kernel
theorem dX0_barsUpTo_8 : decode cX0_barsUpTo 8 = .ok (.getfield 36, 3) := by decide +kernel
theorem dX0_barsUpTo_11 : decode cX0_barsUpTo 11 = .ok (.if_icmp .gt 15, 3) := by decide +kernel
theorem dX0_barsUpTo_14 : decode cX0_barsUpTo 14 = .ok (.aload_n 0, 1) := by decide +kernel
theorem dX0_barsUpTo_15 : decode cX0_barsUpTo 15 = .ok (.iload_n 1, 1) := by decide +kernel
theorem dX0_barsUpTo_16 : decode cX0_barsUpTo 16 = .ok (.iconst 1, 1) := by decide +kernel
theorem dX0_barsUpTo_17 : decode cX0_barsUpTo 17 = .ok (.isub, 1) := by decide +kernel
theorem dX0_barsUpTo_18 : decode cX0_barsUpTo 18 = .ok (.invokevirtual 40, 3) := by decide +kernel
theorem dX0_barsUpTo_21 : decode cX0_barsUpTo 21 = .ok (.iconst 1, 1) := by decide +kernel
theorem dX0_barsUpTo_22 : decode cX0_barsUpTo 22 = .ok (.iadd, 1) := by decide +kernel
theorem dX0_barsUpTo_23 : decode cX0_barsUpTo 23 = .ok (.goto 5, 3) := by decide +kernel
theorem dX0_barsUpTo_26 : decode cX0_barsUpTo 26 = .ok (.bipush 24, 2) := by decide +kernel
theorem dX0_barsUpTo_28 : decode cX0_barsUpTo 28 = .ok (.ireturn, 1) := by decide +kernel
theorem dX0_ticksBehind_0 : decode cX0_ticksBehind 0 = .ok (.aload_n 0, 1) := by decide +kernel
theorem dX0_ticksBehind_1 : decode cX0_ticksBehind 1 = .ok (.iload_n 2, 1) := by decide +kernel
theorem dX0_ticksBehind_2 : decode cX0_ticksBehind 2 = .ok (.invokevirtual 32, 3) := by decide +kernel
theorem dX0_ticksBehind_5 : decode cX0_ticksBehind 5 = .ok (.aload_n 0, 1) := by decide +kernel
theorem dX0_ticksBehind_6 : decode cX0_ticksBehind 6 = .ok (.iload_n 2, 1) := by decide +kernel
theorem dX0_ticksBehind_7 : decode cX0_ticksBehind 7 = .ok (.invokevirtual 43, 3) := by decide +kernel
theorem dX0_ticksBehind_10 : decode cX0_ticksBehind 10 = .ok (.iadd, 1) := by decide +kernel
theorem dX0_ticksBehind_11 : decode cX0_ticksBehind 11 = .ok (.istore_n 3, 1) := by decide +kernel
theorem dX0_ticksBehind_12 : decode cX0_ticksBehind 12 = .ok (.iconst 0, 1) := by decide +kernel
theorem dX0_ticksBehind_13 : decode cX0_ticksBehind 13 = .ok (.aload_n 0, 1) := by decide +kernel
theorem dX0_ticksBehind_14 : decode cX0_ticksBehind 14 = .ok (.iload_n 2, 1) := by decide +kernel
theorem dX0_ticksBehind_15 : decode cX0_ticksBehind 15 = .ok (.invokevirtual 43, 3) := by decide +kernel
theorem dX0_ticksBehind_18 : decode cX0_ticksBehind 18 = .ok (.iload_n 3, 1) := by decide +kernel
theorem dX0_ticksBehind_19 : decode cX0_ticksBehind 19 = .ok (.iload_n 1, 1) := by decide +kernel
theorem dX0_ticksBehind_20 : decode cX0_ticksBehind 20 = .ok (.isub, 1) := by decide +kernel
theorem dX0_ticksBehind_21 : decode cX0_ticksBehind 21 = .ok (.invokestatic 46, 3) := by decide +kernel
theorem dX0_ticksBehind_24 : decode cX0_ticksBehind 24 = .ok (.invokestatic 52, 3) := by decide +kernel
theorem dX0_ticksBehind_27 : decode cX0_ticksBehind 27 = .ok (.ireturn, 1) := by decide +kernel
theorem dX0_groupLengthAt_0 : decode cX0_groupLengthAt 0 = .ok (.iload_n 1, 1) := by decide +kernel
theorem dX0_groupLengthAt_1 : decode cX0_groupLengthAt 1 = .ok (.invokestatic 28, 3) := by decide +kernel
theorem dX0_groupLengthAt_4 : decode cX0_groupLengthAt 4 = .ok (.ifCond .ne 6, 3) := by decide +kernel
theorem dX0_groupLengthAt_7 : decode cX0_groupLengthAt 7 = .ok (.bipush 16, 2) := by decide +kernel
theorem dX0_groupLengthAt_9 : decode cX0_groupLengthAt 9 = .ok (.ireturn, 1) := by decide +kernel
theorem dX0_groupLengthAt_10 : decode cX0_groupLengthAt 10 = .ok (.aload_n 0, 1) := by decide +kernel
theorem dX0_groupLengthAt_11 : decode cX0_groupLengthAt 11 = .ok (.getfield 15, 3) := by decide +kernel
theorem dX0_groupLengthAt_14 : decode cX0_groupLengthAt 14 = .ok (.iload_n 1, 1) := by decide +kernel
theorem dX0_groupLengthAt_15 : decode cX0_groupLengthAt 15 = .ok (.iaload, 1) := by decide +kernel
theorem dX0_groupLengthAt_16 : decode cX0_groupLengthAt 16 = .ok (.bipush 8, 2) := by decide +kernel
theorem dX0_groupLengthAt_18 : decode cX0_groupLengthAt 18 = .ok (.if_icmp .ne 17, 3) := by decide +kernel
theorem dX0_groupLengthAt_21 : decode cX0_groupLengthAt 21 = .ok (.aload_n 0, 1) := by decide +kernel
theorem dX0_groupLengthAt_22 : decode cX0_groupLengthAt 22 = .ok (.getfield 9, 3) := by decide +kernel
theorem dX0_groupLengthAt_25 : decode cX0_groupLengthAt 25 = .ok (.iload_n 1, 1) := by decide +kernel
theorem dX0_groupLengthAt_26 : decode cX0_groupLengthAt 26 = .ok (.iaload, 1) := by decide +kernel
theorem dX0_groupLengthAt_27 : decode cX0_groupLengthAt 27 = .ok (.iconst 3, 1) := by decide +kernel
theorem dX0_groupLengthAt_28 : decode cX0_groupLengthAt 28 = .ok (.irem, 1) := by decide +kernel
theorem dX0_groupLengthAt_29 : decode cX0_groupLengthAt 29 = .ok (.ifCond .ne 6, 3) := by decide +kernel
theorem dX0_groupLengthAt_32 : decode cX0_groupLengthAt 32 = .ok (.bipush 24, 2) := by decide +kernel
theorem dX0_groupLengthAt_34 : decode cX0_groupLengthAt 34 = .ok (.ireturn, 1) := by decide +kernel
theorem dX0_groupLengthAt_35 : decode cX0_groupLengthAt 35 = .ok (.aload_n 0, 1) := by decide +kernel
theorem dX0_groupLengthAt_36 : decode cX0_groupLengthAt 36 = .ok (.getfield 15, 3) := by decide +kernel
theorem dX0_groupLengthAt_39 : decode cX0_groupLengthAt 39 = .ok (.iload_n 1, 1) := by decide +kernel
theorem dX0_groupLengthAt_40 : decode cX0_groupLengthAt 40 = .ok (.iaload, 1) := by decide +kernel
theorem dX0_groupLengthAt_41 : decode cX0_groupLengthAt 41 = .ok (.iconst 2, 1) := by decide +kernel
theorem dX0_groupLengthAt_42 : decode cX0_groupLengthAt 42 = .ok (.if_icmp .ne 8, 3) := by decide +kernel
theorem dX0_groupLengthAt_45 : decode cX0_groupLengthAt 45 = .ok (.bipush 32, 2) := by decide +kernel
theorem dX0_groupLengthAt_47 : decode cX0_groupLengthAt 47 = .ok (.goto 5, 3) := by decide +kernel
theorem dX0_groupLengthAt_50 : decode cX0_groupLengthAt 50 = .ok (.bipush 16, 2) := by decide +kernel
theorem dX0_groupLengthAt_52 : decode cX0_groupLengthAt 52 = .ok (.ireturn, 1) := by decide +kernel
theorem dX1_init_0 : decode cX1_init 0 = .ok (.aload_n 0, 1) := by decide +kernel
theorem dX1_init_1 : decode cX1_init 1 = .ok (.invokespecial 3, 3) := by decide +kernel
theorem dX1_init_4 : decode cX1_init 4 = .ok (.aload_n 0, 1) := by decide +kernel
theorem dX1_init_5 : decode cX1_init 5 = .ok (.iconst (-1), 1) := by decide +kernel
theorem dX1_init_6 : decode cX1_init 6 = .ok (.putfield 9, 3) := by decide +kernel
theorem dX1_init_9 : decode cX1_init 9 = .ok (.aload_n 0, 1) := by decide +kernel
theorem dX1_init_10 : decode cX1_init 10 = .ok (.iconst (-1), 1) := by decide +kernel
theorem dX1_init_11 : decode cX1_init 11 = .ok (.putfield 15, 3) := by decide +kernel
theorem dX1_init_14 : decode cX1_init 14 = .ok (.aload_n 0, 1) := by decide +kernel
theorem dX1_init_15 : decode cX1_init 15 = .ok (.iconst (-1), 1) := by decide +kernel
theorem dX1_init_16 : decode cX1_init 16 = .ok (.putfield 18, 3) := by decide +kernel
theorem dX1_init_19 : decode cX1_init 19 = .ok (.return_, 1) := by decide +kernel
theorem dX1_rootClass_0 : decode cX1_rootClass 0 = .ok (.aload_n 0, 1) := by decide +kernel
theorem dX1_rootClass_1 : decode cX1_rootClass 1 = .ok (.getfield 9, 3) := by decide +kernel
theorem dX1_rootClass_4 : decode cX1_rootClass 4 = .ok (.ireturn, 1) := by decide +kernel
theorem dX1_kindNumber_0 : decode cX1_kindNumber 0 = .ok (.aload_n 0, 1) := by decide +kernel
theorem dX1_kindNumber_1 : decode cX1_kindNumber 1 = .ok (.getfield 15, 3) := by decide +kernel
theorem dX1_kindNumber_4 : decode cX1_kindNumber 4 = .ok (.ireturn, 1) := by decide +kernel
theorem dX1_lowestTone_0 : decode cX1_lowestTone 0 = .ok (.aload_n 0, 1) := by decide +kernel
theorem dX1_lowestTone_1 : decode cX1_lowestTone 1 = .ok (.getfield 18, 3) := by decide +kernel
theorem dX1_lowestTone_4 : decode cX1_lowestTone 4 = .ok (.ireturn, 1) := by decide +kernel
theorem dX1_tell_0 : decode cX1_tell 0 = .ok (.iconst 0, 1) := by decide +kernel
theorem dX1_tell_1 : decode cX1_tell 1 = .ok (.istore 4, 2) := by decide +kernel
theorem dX1_tell_3 : decode cX1_tell 3 = .ok (.iconst (-1), 1) := by decide +kernel
theorem dX1_tell_4 : decode cX1_tell 4 = .ok (.istore 5, 2) := by decide +kernel
theorem dX1_tell_6 : decode cX1_tell 6 = .ok (.iconst 0, 1) := by decide +kernel
theorem dX1_tell_7 : decode cX1_tell 7 = .ok (.istore 6, 2) := by decide +kernel
theorem dX1_tell_9 : decode cX1_tell 9 = .ok (.iload 6, 2) := by decide +kernel
theorem dX1_tell_11 : decode cX1_tell 11 = .ok (.aload_n 1, 1) := by decide +kernel
theorem dX1_tell_12 : decode cX1_tell 12 = .ok (.arraylength, 1) := by decide +kernel
theorem dX1_tell_13 : decode cX1_tell 13 = .ok (.if_icmp .ge 62, 3) := by decide +kernel
theorem dX1_tell_16 : decode cX1_tell 16 = .ok (.aload_n 1, 1) := by decide +kernel
theorem dX1_tell_17 : decode cX1_tell 17 = .ok (.iload 6, 2) := by decide +kernel
theorem dX1_tell_19 : decode cX1_tell 19 = .ok (.aaload, 1) := by decide +kernel
theorem dX1_tell_20 : decode cX1_tell 20 = .ok (.aload_n 2, 1) := by decide +kernel
theorem dX1_tell_21 : decode cX1_tell 21 = .ok (.iload_n 3, 1) := by decide +kernel
theorem dX1_tell_22 : decode cX1_tell 22 = .ok (.iload 6, 2) := by decide +kernel
theorem dX1_tell_24 : decode cX1_tell 24 = .ok (.invokevirtual 21, 3) := by decide +kernel
theorem dX1_tell_27 : decode cX1_tell 27 = .ok (.invokevirtual 27, 3) := by decide +kernel
theorem dX1_tell_30 : decode cX1_tell 30 = .ok (.istore 7, 2) := by decide +kernel
theorem dX1_tell_32 : decode cX1_tell 32 = .ok (.iload 7, 2) := by decide +kernel
theorem dX1_tell_34 : decode cX1_tell 34 = .ok (.ifCond .lt 35, 3) := by decide +kernel
theorem dX1_tell_37 : decode cX1_tell 37 = .ok (.iload 4, 2) := by decide +kernel
theorem dX1_tell_39 : decode cX1_tell 39 = .ok (.iconst 1, 1) := by decide +kernel
theorem dX1_tell_40 : decode cX1_tell 40 = .ok (.iload 7, 2) := by decide +kernel
theorem dX1_tell_42 : decode cX1_tell 42 = .ok (.bipush 12, 2) := by decide +kernel
theorem dX1_tell_44 : decode cX1_tell 44 = .ok (.irem, 1) := by decide +kernel
theorem dX1_tell_45 : decode cX1_tell 45 = .ok (.ishl, 1) := by decide +kernel
theorem dX1_tell_46 : decode cX1_tell 46 = .ok (.ior, 1) := by decide +kernel
theorem dX1_tell_47 : decode cX1_tell 47 = .ok (.istore 4, 2) := by decide +kernel
theorem dX1_tell_49 : decode cX1_tell 49 = .ok (.iload 5, 2) := by decide +kernel
theorem dX1_tell_51 : decode cX1_tell 51 = .ok (.iconst (-1), 1) := by decide +kernel
theorem dX1_tell_52 : decode cX1_tell 52 = .ok (.if_icmp .ne 8, 3) := by decide +kernel
theorem dX1_tell_55 : decode cX1_tell 55 = .ok (.iload 7, 2) := by decide +kernel
theorem dX1_tell_57 : decode cX1_tell 57 = .ok (.goto 10, 3) := by decide +kernel
theorem dX1_tell_60 : decode cX1_tell 60 = .ok (.iload 5, 2) := by decide +kernel
theorem dX1_tell_62 : decode cX1_tell 62 = .ok (.iload 7, 2) := by decide +kernel
theorem dX1_tell_64 : decode cX1_tell 64 = .ok (.invokestatic 33, 3) := by decide +kernel
theorem dX1_tell_67 : decode cX1_tell 67 = .ok (.istore 5, 2) := by decide +kernel
theorem dX1_tell_69 : decode cX1_tell 69 = .ok (.iinc 6 1, 3) := by decide +kernel
theorem dX1_tell_72 : decode cX1_tell 72 = .ok (.goto (-63), 3) := by decide +kernel
theorem dX1_tell_75 : decode cX1_tell 75 = .ok (.aload_n 0, 1) := by decide +kernel
theorem dX1_tell_76 : decode cX1_tell 76 = .ok (.invokevirtual 38, 3) := by decide +kernel
theorem dX1_tell_79 : decode cX1_tell 79 = .ok (.iload 4, 2) := by decide +kernel
theorem dX1_tell_81 : decode cX1_tell 81 = .ok (.invokestatic 41, 3) := by decide +kernel
theorem dX1_tell_84 : decode cX1_tell 84 = .ok (.iconst 3, 1) := by decide +kernel
theorem dX1_tell_85 : decode cX1_tell 85 = .ok (.if_icmp .ne 14, 3) := by decide +kernel
theorem dX1_tell_88 : decode cX1_tell 88 = .ok (.aload_n 0, 1) := by decide +kernel
theorem dX1_tell_89 : decode cX1_tell 89 = .ok (.iload 4, 2) := by decide +kernel
theorem dX1_tell_91 : decode cX1_tell 91 = .ok (.iload 5, 2) := by decide +kernel
theorem dX1_tell_93 : decode cX1_tell 93 = .ok (.bipush 12, 2) := by decide +kernel
theorem dX1_tell_95 : decode cX1_tell 95 = .ok (.irem, 1) := by decide +kernel
theorem dX1_tell_96 : decode cX1_tell 96 = .ok (.invokevirtual 46, 3) := by decide +kernel
theorem dX1_tell_99 : decode cX1_tell 99 = .ok (.return_, 1) := by decide +kernel
theorem dX1_forget_0 : decode cX1_forget 0 = .ok (.aload_n 0, 1) := by decide +kernel
theorem dX1_forget_1 : decode cX1_forget 1 = .ok (.iconst (-1), 1) := by decide +kernel
theorem dX1_forget_2 : decode cX1_forget 2 = .ok (.putfield 9, 3) := by decide +kernel
theorem dX1_forget_5 : decode cX1_forget 5 = .ok (.aload_n 0, 1) := by decide +kernel
theorem dX1_forget_6 : decode cX1_forget 6 = .ok (.iconst (-1), 1) := by decide +kernel
theorem dX1_forget_7 : decode cX1_forget 7 = .ok (.putfield 15, 3) := by decide +kernel
theorem dX1_forget_10 : decode cX1_forget 10 = .ok (.aload_n 0, 1) := by decide +kernel
theorem dX1_forget_11 : decode cX1_forget 11 = .ok (.iconst (-1), 1) := by decide +kernel
theorem dX1_forget_12 : decode cX1_forget 12 = .ok (.putfield 18, 3) := by decide +kernel
theorem dX1_forget_15 : decode cX1_forget 15 = .ok (.return_, 1) := by decide +kernel
theorem dX1_findRoot_0 : decode cX1_findRoot 0 = .ok (.iconst 0, 1) := by decide +kernel
theorem dX1_findRoot_1 : decode cX1_findRoot 1 = .ok (.istore_n 3, 1) := by decide +kernel
theorem dX1_findRoot_2 : decode cX1_findRoot 2 = .ok (.iload_n 3, 1) := by decide +kernel
theorem dX1_findRoot_3 : decode cX1_findRoot 3 = .ok (.bipush 12, 2) := by decide +kernel
theorem dX1_findRoot_5 : decode cX1_findRoot 5 = .ok (.if_icmp .ge 33, 3) := by decide +kernel
theorem dX1_findRoot_8 : decode cX1_findRoot 8 = .ok (.aload_n 0, 1) := by decide +kernel
theorem dX1_findRoot_9 : decode cX1_findRoot 9 = .ok (.getfield 9, 3) := by decide +kernel
theorem dX1_findRoot_12 : decode cX1_findRoot 12 = .ok (.iconst (-1), 1) := by decide +kernel
theorem dX1_findRoot_13 : decode cX1_findRoot 13 = .ok (.if_icmp .ne 25, 3) := by decide +kernel
theorem dX1_findRoot_16 : decode cX1_findRoot 16 = .ok (.iload_n 1, 1) := by decide +kernel
theorem dX1_findRoot_17 : decode cX1_findRoot 17 = .ok (.iload_n 3, 1) := by decide +kernel
theorem dX1_findRoot_18 : decode cX1_findRoot 18 = .ok (.ishr, 1) := by decide +kernel
theorem dX1_findRoot_19 : decode cX1_findRoot 19 = .ok (.iconst 1, 1) := by decide +kernel
theorem dX1_findRoot_20 : decode cX1_findRoot 20 = .ok (.iand, 1) := by decide +kernel
theorem dX1_findRoot_21 : decode cX1_findRoot 21 = .ok (.iconst 1, 1) := by decide +kernel
theorem dX1_findRoot_22 : decode cX1_findRoot 22 = .ok (.if_icmp .ne 10, 3) := by decide +kernel
theorem dX1_findRoot_25 : decode cX1_findRoot 25 = .ok (.aload_n 0, 1) := by decide +kernel
theorem dX1_findRoot_26 : decode cX1_findRoot 26 = .ok (.iload_n 1, 1) := by decide +kernel
theorem dX1_findRoot_27 : decode cX1_findRoot 27 = .ok (.iload_n 3, 1) := by decide +kernel
theorem dX1_findRoot_28 : decode cX1_findRoot 28 = .ok (.iload_n 2, 1) := by decide +kernel
theorem dX1_findRoot_29 : decode cX1_findRoot 29 = .ok (.invokevirtual 50, 3) := by decide +kernel
theorem dX1_findRoot_32 : decode cX1_findRoot 32 = .ok (.iinc 3 1, 3) := by decide +kernel
theorem dX1_findRoot_35 : decode cX1_findRoot 35 = .ok (.goto (-33), 3) := by decide +kernel
theorem dX1_findRoot_38 : decode cX1_findRoot 38 = .ok (.return_, 1) := by decide +kernel
theorem dX1_findKind_0 : decode cX1_findKind 0 = .ok (.iconst 0, 1) := by decide +kernel
theorem dX1_findKind_1 : decode cX1_findKind 1 = .ok (.istore 4, 2) := by decide +kernel
theorem dX1_findKind_3 : decode cX1_findKind 3 = .ok (.iload 4, 2) := by decide +kernel
theorem dX1_findKind_5 : decode cX1_findKind 5 = .ok (.getstatic 54, 3) := by decide +kernel
theorem dX1_findKind_8 : decode cX1_findKind 8 = .ok (.arraylength, 1) := by decide +kernel
theorem dX1_findKind_9 : decode cX1_findKind 9 = .ok (.if_icmp .ge 119, 3) := by decide +kernel
theorem dX1_findKind_12 : decode cX1_findKind 12 = .ok (.iload 4, 2) := by decide +kernel
theorem dX1_findKind_14 : decode cX1_findKind 14 = .ok (.getstatic 58, 3) := by decide +kernel
theorem dX1_findKind_17 : decode cX1_findKind 17 = .ok (.arraylength, 1) := by decide +kernel
theorem dX1_findKind_18 : decode cX1_findKind 18 = .ok (.if_icmp .ge 110, 3) := by decide +kernel
theorem dX1_findKind_21 : decode cX1_findKind 21 = .ok (.iload_n 2, 1) := by decide +kernel
theorem dX1_findKind_22 : decode cX1_findKind 22 = .ok (.getstatic 54, 3) := by decide +kernel
theorem dX1_findKind_25 : decode cX1_findKind 25 = .ok (.iload 4, 2) := by decide +kernel
theorem dX1_findKind_27 : decode cX1_findKind 27 = .ok (.iaload, 1) := by decide +kernel
theorem dX1_findKind_28 : decode cX1_findKind 28 = .ok (.iadd, 1) := by decide +kernel
theorem dX1_findKind_29 : decode cX1_findKind 29 = .ok (.bipush 12, 2) := by decide +kernel
theorem dX1_findKind_31 : decode cX1_findKind 31 = .ok (.irem, 1) := by decide +kernel
theorem dX1_findKind_32 : decode cX1_findKind 32 = .ok (.istore 5, 2) := by decide +kernel
theorem dX1_findKind_34 : decode cX1_findKind 34 = .ok (.iload_n 2, 1) := by decide +kernel
theorem dX1_findKind_35 : decode cX1_findKind 35 = .ok (.getstatic 58, 3) := by decide +kernel
theorem dX1_findKind_38 : decode cX1_findKind 38 = .ok (.iload 4, 2) := by decide +kernel
theorem dX1_findKind_40 : decode cX1_findKind 40 = .ok (.iaload, 1) := by decide +kernel
theorem dX1_findKind_41 : decode cX1_findKind 41 = .ok (.iadd, 1) := by decide +kernel
theorem dX1_findKind_42 : decode cX1_findKind 42 = .ok (.bipush 12, 2) := by decide +kernel
theorem dX1_findKind_44 : decode cX1_findKind 44 = .ok (.irem, 1) := by decide +kernel
theorem dX1_findKind_45 : decode cX1_findKind 45 = .ok (.istore 6, 2) := by decide +kernel
theorem dX1_findKind_47 : decode cX1_findKind 47 = .ok (.iload 4, 2) := by decide +kernel
theorem dX1_findKind_49 : decode cX1_findKind 49 = .ok (.iconst 3, 1) := by decide +kernel
theorem dX1_findKind_50 : decode cX1_findKind 50 = .ok (.if_icmp .ne 8, 3) := by decide +kernel
theorem dX1_findKind_53 : decode cX1_findKind 53 = .ok (.iload_n 2, 1) := by decide +kernel
theorem dX1_findKind_54 : decode cX1_findKind 54 = .ok (.iload_n 3, 1) := by decide +kernel
theorem dX1_findKind_55 : decode cX1_findKind 55 = .ok (.if_icmp .ne 7, 3) := by decide +kernel
theorem dX1_findKind_58 : decode cX1_findKind 58 = .ok (.iconst 1, 1) := by decide +kernel
theorem dX1_findKind_59 : decode cX1_findKind 59 = .ok (.goto 4, 3) := by decide +kernel
theorem dX1_findKind_62 : decode cX1_findKind 62 = .ok (.iconst 0, 1) := by decide +kernel
theorem dX1_findKind_63 : decode cX1_findKind 63 = .ok (.istore 7, 2) := by decide +kernel
theorem dX1_findKind_65 : decode cX1_findKind 65 = .ok (.iload 7, 2) := by decide +kernel
theorem dX1_findKind_67 : decode cX1_findKind 67 = .ok (.ifCond .eq 55, 3) := by decide +kernel
theorem dX1_findKind_70 : decode cX1_findKind 70 = .ok (.iload_n 1, 1) := by decide +kernel
theorem dX1_findKind_71 : decode cX1_findKind 71 = .ok (.iconst 1, 1) := by decide +kernel
theorem dX1_findKind_72 : decode cX1_findKind 72 = .ok (.iload_n 2, 1) := by decide +kernel
theorem dX1_findKind_73 : decode cX1_findKind 73 = .ok (.ishl, 1) := by decide +kernel
theorem dX1_findKind_74 : decode cX1_findKind 74 = .ok (.iconst 1, 1) := by decide +kernel
theorem dX1_findKind_75 : decode cX1_findKind 75 = .ok (.iload 5, 2) := by decide +kernel
theorem dX1_findKind_77 : decode cX1_findKind 77 = .ok (.ishl, 1) := by decide +kernel
theorem dX1_findKind_78 : decode cX1_findKind 78 = .ok (.ior, 1) := by decide +kernel
theorem dX1_findKind_79 : decode cX1_findKind 79 = .ok (.iconst 1, 1) := by decide +kernel
theorem dX1_findKind_80 : decode cX1_findKind 80 = .ok (.iload 6, 2) := by decide +kernel
theorem dX1_findKind_82 : decode cX1_findKind 82 = .ok (.ishl, 1) := by decide +kernel
theorem dX1_findKind_83 : decode cX1_findKind 83 = .ok (.ior, 1) := by decide +kernel
theorem dX1_findKind_84 : decode cX1_findKind 84 = .ok (.if_icmp .ne 38, 3) := by decide +kernel
theorem dX1_findKind_87 : decode cX1_findKind 87 = .ok (.aload_n 0, 1) := by decide +kernel
theorem dX1_findKind_88 : decode cX1_findKind 88 = .ok (.iload_n 2, 1) := by decide +kernel
theorem dX1_findKind_89 : decode cX1_findKind 89 = .ok (.putfield 9, 3) := by decide +kernel
theorem dX1_findKind_92 : decode cX1_findKind 92 = .ok (.aload_n 0, 1) := by decide +kernel
theorem dX1_findKind_93 : decode cX1_findKind 93 = .ok (.iload 4, 2) := by decide +kernel
theorem dX1_findKind_95 : decode cX1_findKind 95 = .ok (.putfield 15, 3) := by decide +kernel
theorem dX1_findKind_98 : decode cX1_findKind 98 = .ok (.aload_n 0, 1) := by decide +kernel
theorem dX1_findKind_99 : decode cX1_findKind 99 = .ok (.iload_n 3, 1) := by decide +kernel
theorem dX1_findKind_100 : decode cX1_findKind 100 = .ok (.iload_n 2, 1) := by decide +kernel
theorem dX1_findKind_101 : decode cX1_findKind 101 = .ok (.if_icmp .ne 7, 3) := by decide +kernel
theorem dX1_findKind_104 : decode cX1_findKind 104 = .ok (.iconst 0, 1) := by decide +kernel
theorem dX1_findKind_105 : decode cX1_findKind 105 = .ok (.goto 14, 3) := by decide +kernel
theorem dX1_findKind_108 : decode cX1_findKind 108 = .ok (.iload_n 3, 1) := by decide +kernel
theorem dX1_findKind_109 : decode cX1_findKind 109 = .ok (.iload 5, 2) := by decide +kernel
theorem dX1_findKind_111 : decode cX1_findKind 111 = .ok (.if_icmp .ne 7, 3) := by decide +kernel
theorem dX1_findKind_114 : decode cX1_findKind 114 = .ok (.iconst 1, 1) := by decide +kernel
theorem dX1_findKind_115 : decode cX1_findKind 115 = .ok (.goto 4, 3) := by decide +kernel
theorem dX1_findKind_118 : decode cX1_findKind 118 = .ok (.iconst 2, 1) := by decide +kernel
theorem dX1_findKind_119 : decode cX1_findKind 119 = .ok (.putfield 18, 3) := by decide +kernel
theorem dX1_findKind_122 : decode cX1_findKind 122 = .ok (.iinc 4 1, 3) := by decide +kernel
theorem dX1_findKind_125 : decode cX1_findKind 125 = .ok (.goto (-122), 3) := by decide +kernel
theorem dX1_findKind_128 : decode cX1_findKind 128 = .ok (.return_, 1) := by decide +kernel
theorem dX2_init_0 : decode cX2_init 0 = .ok (.aload_n 0, 1) := by decide +kernel
theorem dX2_init_1 : decode cX2_init 1 = .ok (.invokespecial 3, 3) := by decide +kernel
theorem dX2_init_4 : decode cX2_init 4 = .ok (.aload_n 0, 1) := by decide +kernel
theorem dX2_init_5 : decode cX2_init 5 = .ok (.sipush 2560, 3) := by decide +kernel
theorem dX2_init_8 : decode cX2_init 8 = .ok (.newarray .int, 2) := by decide +kernel
theorem dX2_init_10 : decode cX2_init 10 = .ok (.putfield 9, 3) := by decide +kernel
theorem dX2_init_13 : decode cX2_init 13 = .ok (.aload_n 0, 1) := by decide +kernel
theorem dX2_init_14 : decode cX2_init 14 = .ok (.sipush 2560, 3) := by decide +kernel
theorem dX2_init_17 : decode cX2_init 17 = .ok (.newarray .int, 2) := by decide +kernel
theorem dX2_init_19 : decode cX2_init 19 = .ok (.putfield 15, 3) := by decide +kernel
theorem dX2_init_22 : decode cX2_init 22 = .ok (.aload_n 0, 1) := by decide +kernel
theorem dX2_init_23 : decode cX2_init 23 = .ok (.sipush 2560, 3) := by decide +kernel
theorem dX2_init_26 : decode cX2_init 26 = .ok (.newarray .int, 2) := by decide +kernel
theorem dX2_init_28 : decode cX2_init 28 = .ok (.putfield 18, 3) := by decide +kernel
theorem dX2_init_31 : decode cX2_init 31 = .ok (.aload_n 0, 1) := by decide +kernel
theorem dX2_init_32 : decode cX2_init 32 = .ok (.iconst 4, 1) := by decide +kernel
theorem dX2_init_33 : decode cX2_init 33 = .ok (.newarray .int, 2) := by decide +kernel
theorem dX2_init_35 : decode cX2_init 35 = .ok (.putfield 21, 3) := by decide +kernel
theorem dX2_init_38 : decode cX2_init 38 = .ok (.aload_n 0, 1) := by decide +kernel
theorem dX2_init_39 : decode cX2_init 39 = .ok (.iconst 4, 1) := by decide +kernel
theorem dX2_init_40 : decode cX2_init 40 = .ok (.newarray .int, 2) := by decide +kernel
theorem dX2_init_42 : decode cX2_init 42 = .ok (.putfield 24, 3) := by decide +kernel
theorem dX2_init_45 : decode cX2_init 45 = .ok (.aload_n 0, 1) := by decide +kernel
theorem dX2_init_46 : decode cX2_init 46 = .ok (.iconst 4, 1) := by decide +kernel
theorem dX2_init_47 : decode cX2_init 47 = .ok (.newarray .boolean, 2) := by decide +kernel
theorem dX2_init_49 : decode cX2_init 49 = .ok (.putfield 27, 3) := by decide +kernel
theorem dX2_init_52 : decode cX2_init 52 = .ok (.aload_n 0, 1) := by decide +kernel
theorem dX2_init_53 : decode cX2_init 53 = .ok (.iconst 4, 1) := by decide +kernel
theorem dX2_init_54 : decode cX2_init 54 = .ok (.newarray .int, 2) := by decide +kernel
theorem dX2_init_56 : decode cX2_init 56 = .ok (.putfield 31, 3) := by decide +kernel
theorem dX2_init_59 : decode cX2_init 59 = .ok (.return_, 1) := by decide +kernel
theorem dX2_size_0 : decode cX2_size 0 = .ok (.aload_n 0, 1) := by decide +kernel
theorem dX2_size_1 : decode cX2_size 1 = .ok (.getfield 34, 3) := by decide +kernel
theorem dX2_size_4 : decode cX2_size 4 = .ok (.ireturn, 1) := by decide +kernel
theorem dX2_has_0 : decode cX2_has 0 = .ok (.iload_n 1, 1) := by decide +kernel
theorem dX2_has_1 : decode cX2_has 1 = .ok (.ifCond .lt 22, 3) := by decide +kernel
theorem dX2_has_4 : decode cX2_has 4 = .ok (.iload_n 1, 1) := by decide +kernel
theorem dX2_has_5 : decode cX2_has 5 = .ok (.aload_n 0, 1) := by decide +kernel
theorem dX2_has_6 : decode cX2_has 6 = .ok (.getfield 34, 3) := by decide +kernel
theorem dX2_has_9 : decode cX2_has 9 = .ok (.if_icmp .ge 14, 3) := by decide +kernel
theorem dX2_has_12 : decode cX2_has 12 = .ok (.iload_n 1, 1) := by decide +kernel
theorem dX2_has_13 : decode cX2_has 13 = .ok (.sipush 2560, 3) := by decide +kernel
theorem dX2_has_16 : decode cX2_has 16 = .ok (.if_icmp .ge 7, 3) := by decide +kernel
theorem dX2_has_19 : decode cX2_has 19 = .ok (.iconst 1, 1) := by decide +kernel
theorem dX2_has_20 : decode cX2_has 20 = .ok (.goto 4, 3) := by decide +kernel
theorem dX2_has_23 : decode cX2_has 23 = .ok (.iconst 0, 1) := by decide +kernel
theorem dX2_has_24 : decode cX2_has 24 = .ok (.ireturn, 1) := by decide +kernel
theorem dX2_kindAt_0 : decode cX2_kindAt 0 = .ok (.aload_n 0, 1) := by decide +kernel
theorem dX2_kindAt_1 : decode cX2_kindAt 1 = .ok (.iload_n 1, 1) := by decide +kernel
theorem dX2_kindAt_2 : decode cX2_kindAt 2 = .ok (.invokevirtual 38, 3) := by decide +kernel
theorem dX2_kindAt_5 : decode cX2_kindAt 5 = .ok (.ifCond .eq 12, 3) := by decide +kernel
theorem dX2_kindAt_8 : decode cX2_kindAt 8 = .ok (.aload_n 0, 1) := by decide +kernel
theorem dX2_kindAt_9 : decode cX2_kindAt 9 = .ok (.getfield 9, 3) := by decide +kernel
theorem dX2_kindAt_12 : decode cX2_kindAt 12 = .ok (.iload_n 1, 1) := by decide +kernel
theorem dX2_kindAt_13 : decode cX2_kindAt 13 = .ok (.iaload, 1) := by decide +kernel
theorem dX2_kindAt_14 : decode cX2_kindAt 14 = .ok (.goto 4, 3) := by decide +kernel
theorem dX2_kindAt_17 : decode cX2_kindAt 17 = .ok (.iconst (-1), 1) := by decide +kernel
theorem dX2_kindAt_18 : decode cX2_kindAt 18 = .ok (.ireturn, 1) := by decide +kernel
theorem dX2_tickAt_0 : decode cX2_tickAt 0 = .ok (.aload_n 0, 1) := by decide +kernel
theorem dX2_tickAt_1 : decode cX2_tickAt 1 = .ok (.iload_n 1, 1) := by decide +kernel
theorem dX2_tickAt_2 : decode cX2_tickAt 2 = .ok (.invokevirtual 38, 3) := by decide +kernel
theorem dX2_tickAt_5 : decode cX2_tickAt 5 = .ok (.ifCond .eq 12, 3) := by decide +kernel
theorem dX2_tickAt_8 : decode cX2_tickAt 8 = .ok (.aload_n 0, 1) := by decide +kernel
theorem dX2_tickAt_9 : decode cX2_tickAt 9 = .ok (.getfield 15, 3) := by decide +kernel
theorem dX2_tickAt_12 : decode cX2_tickAt 12 = .ok (.iload_n 1, 1) := by decide +kernel
theorem dX2_tickAt_13 : decode cX2_tickAt 13 = .ok (.iaload, 1) := by decide +kernel
theorem dX2_tickAt_14 : decode cX2_tickAt 14 = .ok (.goto 4, 3) := by decide +kernel
theorem dX2_tickAt_17 : decode cX2_tickAt 17 = .ok (.iconst (-1), 1) := by decide +kernel
theorem dX2_tickAt_18 : decode cX2_tickAt 18 = .ok (.ireturn, 1) := by decide +kernel
theorem dX2_partsAt_0 : decode cX2_partsAt 0 = .ok (.aload_n 0, 1) := by decide +kernel
theorem dX2_partsAt_1 : decode cX2_partsAt 1 = .ok (.iload_n 1, 1) := by decide +kernel
theorem dX2_partsAt_2 : decode cX2_partsAt 2 = .ok (.invokevirtual 38, 3) := by decide +kernel
theorem dX2_partsAt_5 : decode cX2_partsAt 5 = .ok (.ifCond .eq 12, 3) := by decide +kernel
theorem dX2_partsAt_8 : decode cX2_partsAt 8 = .ok (.aload_n 0, 1) := by decide +kernel
theorem dX2_partsAt_9 : decode cX2_partsAt 9 = .ok (.getfield 18, 3) := by decide +kernel
theorem dX2_partsAt_12 : decode cX2_partsAt 12 = .ok (.iload_n 1, 1) := by decide +kernel
theorem dX2_partsAt_13 : decode cX2_partsAt 13 = .ok (.iaload, 1) := by decide +kernel
theorem dX2_partsAt_14 : decode cX2_partsAt 14 = .ok (.goto 4, 3) := by decide +kernel
theorem dX2_partsAt_17 : decode cX2_partsAt 17 = .ok (.iconst (-1), 1) := by decide +kernel
theorem dX2_partsAt_18 : decode cX2_partsAt 18 = .ok (.ireturn, 1) := by decide +kernel
theorem dX2_search_0 : decode cX2_search 0 = .ok (.aload_n 0, 1) := by decide +kernel
theorem dX2_search_1 : decode cX2_search 1 = .ok (.iconst 0, 1) := by decide +kernel
theorem dX2_search_2 : decode cX2_search 2 = .ok (.putfield 34, 3) := by decide +kernel
theorem dX2_search_5 : decode cX2_search 5 = .ok (.aload_n 0, 1) := by decide +kernel
theorem dX2_search_6 : decode cX2_search 6 = .ok (.getfield 24, 3) := by decide +kernel
theorem dX2_search_9 : decode cX2_search 9 = .ok (.iconst (-1), 1) := by decide +kernel
theorem dX2_search_10 : decode cX2_search 10 = .ok (.invokestatic 42, 3) := by decide +kernel
theorem dX2_search_13 : decode cX2_search 13 = .ok (.iconst 0, 1) := by decide +kernel
theorem dX2_search_14 : decode cX2_search 14 = .ok (.istore_n 3, 1) := by decide +kernel
theorem dX2_search_15 : decode cX2_search 15 = .ok (.iload_n 3, 1) := by decide +kernel
theorem dX2_search_16 : decode cX2_search 16 = .ok (.aload_n 2, 1) := by decide +kernel
theorem dX2_search_17 : decode cX2_search 17 = .ok (.invokevirtual 48, 3) := by decide +kernel
theorem dX2_search_20 : decode cX2_search 20 = .ok (.if_icmp .ge 84, 3) := by decide +kernel
theorem dX2_search_23 : decode cX2_search 23 = .ok (.aload_n 2, 1) := by decide +kernel
theorem dX2_search_24 : decode cX2_search 24 = .ok (.iload_n 3, 1) := by decide +kernel
theorem dX2_search_25 : decode cX2_search 25 = .ok (.invokevirtual 54, 3) := by decide +kernel
theorem dX2_search_28 : decode cX2_search 28 = .ok (.istore 4, 2) := by decide +kernel
theorem dX2_search_30 : decode cX2_search 30 = .ok (.aload_n 0, 1) := by decide +kernel
theorem dX2_search_31 : decode cX2_search 31 = .ok (.aload_n 1, 1) := by decide +kernel
theorem dX2_search_32 : decode cX2_search 32 = .ok (.aload_n 2, 1) := by decide +kernel
theorem dX2_search_33 : decode cX2_search 33 = .ok (.iload_n 3, 1) := by decide +kernel
theorem dX2_search_34 : decode cX2_search 34 = .ok (.invokevirtual 58, 3) := by decide +kernel
theorem dX2_search_37 : decode cX2_search 37 = .ok (.aload_n 0, 1) := by decide +kernel
theorem dX2_search_38 : decode cX2_search 38 = .ok (.iload 4, 2) := by decide +kernel
theorem dX2_search_40 : decode cX2_search 40 = .ok (.invokevirtual 62, 3) := by decide +kernel
theorem dX2_search_43 : decode cX2_search 43 = .ok (.aload_n 0, 1) := by decide +kernel
theorem dX2_search_44 : decode cX2_search 44 = .ok (.iload 4, 2) := by decide +kernel
theorem dX2_search_46 : decode cX2_search 46 = .ok (.invokevirtual 66, 3) := by decide +kernel
theorem dX2_search_49 : decode cX2_search 49 = .ok (.iconst 0, 1) := by decide +kernel
theorem dX2_search_50 : decode cX2_search 50 = .ok (.istore 5, 2) := by decide +kernel
theorem dX2_search_52 : decode cX2_search 52 = .ok (.iload 5, 2) := by decide +kernel
theorem dX2_search_54 : decode cX2_search 54 = .ok (.aload_n 1, 1) := by decide +kernel
theorem dX2_search_55 : decode cX2_search 55 = .ok (.arraylength, 1) := by decide +kernel
theorem dX2_search_56 : decode cX2_search 56 = .ok (.if_icmp .ge 42, 3) := by decide +kernel
theorem dX2_search_59 : decode cX2_search 59 = .ok (.iload 5, 2) := by decide +kernel
theorem dX2_search_61 : decode cX2_search 61 = .ok (.iconst 4, 1) := by decide +kernel
theorem dX2_search_62 : decode cX2_search 62 = .ok (.if_icmp .ge 36, 3) := by decide +kernel
theorem dX2_search_65 : decode cX2_search 65 = .ok (.aload_n 0, 1) := by decide +kernel
theorem dX2_search_66 : decode cX2_search 66 = .ok (.getfield 27, 3) := by decide +kernel
theorem dX2_search_69 : decode cX2_search 69 = .ok (.iload 5, 2) := by decide +kernel
theorem dX2_search_71 : decode cX2_search 71 = .ok (.baload, 1) := by decide +kernel
theorem dX2_search_72 : decode cX2_search 72 = .ok (.ifCond .eq 20, 3) := by decide +kernel
theorem dX2_search_75 : decode cX2_search 75 = .ok (.aload_n 0, 1) := by decide +kernel
theorem dX2_search_76 : decode cX2_search 76 = .ok (.aload_n 1, 1) := by decide +kernel
theorem dX2_search_77 : decode cX2_search 77 = .ok (.iload 5, 2) := by decide +kernel
theorem dX2_search_79 : decode cX2_search 79 = .ok (.aaload, 1) := by decide +kernel
theorem dX2_search_80 : decode cX2_search 80 = .ok (.iload 5, 2) := by decide +kernel
theorem dX2_search_82 : decode cX2_search 82 = .ok (.aload_n 2, 1) := by decide +kernel
theorem dX2_search_83 : decode cX2_search 83 = .ok (.iload_n 3, 1) := by decide +kernel
theorem dX2_search_84 : decode cX2_search 84 = .ok (.iload 5, 2) := by decide +kernel
theorem dX2_search_86 : decode cX2_search 86 = .ok (.invokevirtual 69, 3) := by decide +kernel
theorem dX2_search_89 : decode cX2_search 89 = .ok (.invokevirtual 73, 3) := by decide +kernel
theorem dX2_search_92 : decode cX2_search 92 = .ok (.iinc 5 1, 3) := by decide +kernel
theorem dX2_search_95 : decode cX2_search 95 = .ok (.goto (-43), 3) := by decide +kernel
theorem dX2_search_98 : decode cX2_search 98 = .ok (.iinc 3 1, 3) := by decide +kernel
theorem dX2_search_101 : decode cX2_search 101 = .ok (.goto (-86), 3) := by decide +kernel
theorem dX2_search_104 : decode cX2_search 104 = .ok (.return_, 1) := by decide +kernel
theorem dX2_add_0 : decode cX2_add 0 = .ok (.aload_n 0, 1) := by decide +kernel
theorem dX2_add_1 : decode cX2_add 1 = .ok (.getfield 34, 3) := by decide +kernel
theorem dX2_add_4 : decode cX2_add 4 = .ok (.ifCond .lt 13, 3) := by decide +kernel
theorem dX2_add_7 : decode cX2_add 7 = .ok (.aload_n 0, 1) := by decide +kernel
theorem dX2_add_8 : decode cX2_add 8 = .ok (.getfield 34, 3) := by decide +kernel
theorem dX2_add_11 : decode cX2_add 11 = .ok (.sipush 2560, 3) := by decide +kernel
theorem dX2_add_14 : decode cX2_add 14 = .ok (.if_icmp .lt 4, 3) := by decide +kernel
theorem dX2_add_17 : decode cX2_add 17 = .ok (.return_, 1) := by decide +kernel
theorem dX2_add_18 : decode cX2_add 18 = .ok (.aload_n 0, 1) := by decide +kernel
theorem dX2_add_19 : decode cX2_add 19 = .ok (.getfield 9, 3) := by decide +kernel
theorem dX2_add_22 : decode cX2_add 22 = .ok (.aload_n 0, 1) := by decide +kernel
theorem dX2_add_23 : decode cX2_add 23 = .ok (.getfield 34, 3) := by decide +kernel
theorem dX2_add_26 : decode cX2_add 26 = .ok (.iload_n 1, 1) := by decide +kernel
theorem dX2_add_27 : decode cX2_add 27 = .ok (.iastore, 1) := by decide +kernel
theorem dX2_add_28 : decode cX2_add 28 = .ok (.aload_n 0, 1) := by decide +kernel
theorem dX2_add_29 : decode cX2_add 29 = .ok (.getfield 15, 3) := by decide +kernel
theorem dX2_add_32 : decode cX2_add 32 = .ok (.aload_n 0, 1) := by decide +kernel
theorem dX2_add_33 : decode cX2_add 33 = .ok (.getfield 34, 3) := by decide +kernel
theorem dX2_add_36 : decode cX2_add 36 = .ok (.iload_n 2, 1) := by decide +kernel
theorem dX2_add_37 : decode cX2_add 37 = .ok (.iastore, 1) := by decide +kernel
theorem dX2_add_38 : decode cX2_add 38 = .ok (.aload_n 0, 1) := by decide +kernel
theorem dX2_add_39 : decode cX2_add 39 = .ok (.getfield 18, 3) := by decide +kernel
theorem dX2_add_42 : decode cX2_add 42 = .ok (.aload_n 0, 1) := by decide +kernel
theorem dX2_add_43 : decode cX2_add 43 = .ok (.getfield 34, 3) := by decide +kernel
theorem dX2_add_46 : decode cX2_add 46 = .ok (.iload_n 3, 1) := by decide +kernel
theorem dX2_add_47 : decode cX2_add 47 = .ok (.iastore, 1) := by decide +kernel
theorem dX2_add_48 : decode cX2_add 48 = .ok (.aload_n 0, 1) := by decide +kernel
theorem dX2_add_49 : decode cX2_add 49 = .ok (.dup, 1) := by decide +kernel
theorem dX2_add_50 : decode cX2_add 50 = .ok (.getfield 34, 3) := by decide +kernel
theorem dX2_add_53 : decode cX2_add 53 = .ok (.iconst 1, 1) := by decide +kernel
theorem dX2_add_54 : decode cX2_add 54 = .ok (.iadd, 1) := by decide +kernel
theorem dX2_add_55 : decode cX2_add 55 = .ok (.putfield 34, 3) := by decide +kernel
theorem dX2_add_58 : decode cX2_add 58 = .ok (.return_, 1) := by decide +kernel
theorem dX2_goOn_0 : decode cX2_goOn 0 = .ok (.iconst 0, 1) := by decide +kernel
theorem dX2_goOn_1 : decode cX2_goOn 1 = .ok (.istore 4, 2) := by decide +kernel
theorem dX2_goOn_3 : decode cX2_goOn 3 = .ok (.iload 4, 2) := by decide +kernel
theorem dX2_goOn_5 : decode cX2_goOn 5 = .ok (.aload_n 1, 1) := by decide +kernel
theorem dX2_goOn_6 : decode cX2_goOn 6 = .ok (.arraylength, 1) := by decide +kernel
theorem dX2_goOn_7 : decode cX2_goOn 7 = .ok (.if_icmp .ge 144, 3) := by decide +kernel
theorem dX2_goOn_10 : decode cX2_goOn 10 = .ok (.iload 4, 2) := by decide +kernel
theorem dX2_goOn_12 : decode cX2_goOn 12 = .ok (.iconst 4, 1) := by decide +kernel
theorem dX2_goOn_13 : decode cX2_goOn 13 = .ok (.if_icmp .ge 138, 3) := by decide +kernel
theorem dX2_goOn_16 : decode cX2_goOn 16 = .ok (.aload_n 2, 1) := by decide +kernel
theorem dX2_goOn_17 : decode cX2_goOn 17 = .ok (.iload_n 3, 1) := by decide +kernel
theorem dX2_goOn_18 : decode cX2_goOn 18 = .ok (.iload 4, 2) := by decide +kernel
theorem dX2_goOn_20 : decode cX2_goOn 20 = .ok (.invokevirtual 69, 3) := by decide +kernel
theorem dX2_goOn_23 : decode cX2_goOn 23 = .ok (.istore 5, 2) := by decide +kernel
theorem dX2_goOn_25 : decode cX2_goOn 25 = .ok (.aload_n 0, 1) := by decide +kernel
theorem dX2_goOn_26 : decode cX2_goOn 26 = .ok (.getfield 21, 3) := by decide +kernel
theorem dX2_goOn_29 : decode cX2_goOn 29 = .ok (.iload 4, 2) := by decide +kernel
theorem dX2_goOn_31 : decode cX2_goOn 31 = .ok (.aload_n 0, 1) := by decide +kernel
theorem dX2_goOn_32 : decode cX2_goOn 32 = .ok (.getfield 24, 3) := by decide +kernel
theorem dX2_goOn_35 : decode cX2_goOn 35 = .ok (.iload 4, 2) := by decide +kernel
theorem dX2_goOn_37 : decode cX2_goOn 37 = .ok (.iaload, 1) := by decide +kernel
theorem dX2_goOn_38 : decode cX2_goOn 38 = .ok (.iastore, 1) := by decide +kernel
theorem dX2_goOn_39 : decode cX2_goOn 39 = .ok (.aload_n 0, 1) := by decide +kernel
theorem dX2_goOn_40 : decode cX2_goOn 40 = .ok (.getfield 24, 3) := by decide +kernel
theorem dX2_goOn_43 : decode cX2_goOn 43 = .ok (.iload 4, 2) := by decide +kernel
theorem dX2_goOn_45 : decode cX2_goOn 45 = .ok (.aload_n 1, 1) := by decide +kernel
theorem dX2_goOn_46 : decode cX2_goOn 46 = .ok (.iload 4, 2) := by decide +kernel
theorem dX2_goOn_48 : decode cX2_goOn 48 = .ok (.aaload, 1) := by decide +kernel
theorem dX2_goOn_49 : decode cX2_goOn 49 = .ok (.iload 5, 2) := by decide +kernel
theorem dX2_goOn_51 : decode cX2_goOn 51 = .ok (.invokevirtual 77, 3) := by decide +kernel
theorem dX2_goOn_54 : decode cX2_goOn 54 = .ok (.iastore, 1) := by decide +kernel
theorem dX2_goOn_55 : decode cX2_goOn 55 = .ok (.aload_n 0, 1) := by decide +kernel
theorem dX2_goOn_56 : decode cX2_goOn 56 = .ok (.getfield 27, 3) := by decide +kernel
theorem dX2_goOn_59 : decode cX2_goOn 59 = .ok (.iload 4, 2) := by decide +kernel
theorem dX2_goOn_61 : decode cX2_goOn 61 = .ok (.aload_n 1, 1) := by decide +kernel
theorem dX2_goOn_62 : decode cX2_goOn 62 = .ok (.iload 4, 2) := by decide +kernel
theorem dX2_goOn_64 : decode cX2_goOn 64 = .ok (.aaload, 1) := by decide +kernel
theorem dX2_goOn_65 : decode cX2_goOn 65 = .ok (.iload 5, 2) := by decide +kernel
theorem dX2_goOn_67 : decode cX2_goOn 67 = .ok (.invokevirtual 82, 3) := by decide +kernel
theorem dX2_goOn_70 : decode cX2_goOn 70 = .ok (.ifCond .eq 24, 3) := by decide +kernel
theorem dX2_goOn_73 : decode cX2_goOn 73 = .ok (.aload_n 1, 1) := by decide +kernel
theorem dX2_goOn_74 : decode cX2_goOn 74 = .ok (.iload 4, 2) := by decide +kernel
theorem dX2_goOn_76 : decode cX2_goOn 76 = .ok (.aaload, 1) := by decide +kernel
theorem dX2_goOn_77 : decode cX2_goOn 77 = .ok (.iload 5, 2) := by decide +kernel
theorem dX2_goOn_79 : decode cX2_goOn 79 = .ok (.invokevirtual 85, 3) := by decide +kernel
theorem dX2_goOn_82 : decode cX2_goOn 82 = .ok (.aload_n 2, 1) := by decide +kernel
theorem dX2_goOn_83 : decode cX2_goOn 83 = .ok (.iload_n 3, 1) := by decide +kernel
theorem dX2_goOn_84 : decode cX2_goOn 84 = .ok (.invokevirtual 54, 3) := by decide +kernel
theorem dX2_goOn_87 : decode cX2_goOn 87 = .ok (.if_icmp .ne 7, 3) := by decide +kernel
theorem dX2_goOn_90 : decode cX2_goOn 90 = .ok (.iconst 1, 1) := by decide +kernel
theorem dX2_goOn_91 : decode cX2_goOn 91 = .ok (.goto 4, 3) := by decide +kernel
theorem dX2_goOn_94 : decode cX2_goOn 94 = .ok (.iconst 0, 1) := by decide +kernel
theorem dX2_goOn_95 : decode cX2_goOn 95 = .ok (.bastore, 1) := by decide +kernel
theorem dX2_goOn_96 : decode cX2_goOn 96 = .ok (.aload_n 0, 1) := by decide +kernel
theorem dX2_goOn_97 : decode cX2_goOn 97 = .ok (.getfield 31, 3) := by decide +kernel
theorem dX2_goOn_100 : decode cX2_goOn 100 = .ok (.iload 4, 2) := by decide +kernel
theorem dX2_goOn_102 : decode cX2_goOn 102 = .ok (.aload_n 0, 1) := by decide +kernel
theorem dX2_goOn_103 : decode cX2_goOn 103 = .ok (.getfield 27, 3) := by decide +kernel
theorem dX2_goOn_106 : decode cX2_goOn 106 = .ok (.iload 4, 2) := by decide +kernel
theorem dX2_goOn_108 : decode cX2_goOn 108 = .ok (.baload, 1) := by decide +kernel
theorem dX2_goOn_109 : decode cX2_goOn 109 = .ok (.ifCond .eq 34, 3) := by decide +kernel
theorem dX2_goOn_112 : decode cX2_goOn 112 = .ok (.aload_n 0, 1) := by decide +kernel
theorem dX2_goOn_113 : decode cX2_goOn 113 = .ok (.getfield 21, 3) := by decide +kernel
theorem dX2_goOn_116 : decode cX2_goOn 116 = .ok (.iload 4, 2) := by decide +kernel
theorem dX2_goOn_118 : decode cX2_goOn 118 = .ok (.iaload, 1) := by decide +kernel
theorem dX2_goOn_119 : decode cX2_goOn 119 = .ok (.iconst (-1), 1) := by decide +kernel
theorem dX2_goOn_120 : decode cX2_goOn 120 = .ok (.if_icmp .eq 23, 3) := by decide +kernel
theorem dX2_goOn_123 : decode cX2_goOn 123 = .ok (.aload_n 0, 1) := by decide +kernel
theorem dX2_goOn_124 : decode cX2_goOn 124 = .ok (.getfield 24, 3) := by decide +kernel
theorem dX2_goOn_127 : decode cX2_goOn 127 = .ok (.iload 4, 2) := by decide +kernel
theorem dX2_goOn_129 : decode cX2_goOn 129 = .ok (.iaload, 1) := by decide +kernel
theorem dX2_goOn_130 : decode cX2_goOn 130 = .ok (.aload_n 0, 1) := by decide +kernel
theorem dX2_goOn_131 : decode cX2_goOn 131 = .ok (.getfield 21, 3) := by decide +kernel
theorem dX2_goOn_134 : decode cX2_goOn 134 = .ok (.iload 4, 2) := by decide +kernel
theorem dX2_goOn_136 : decode cX2_goOn 136 = .ok (.iaload, 1) := by decide +kernel
theorem dX2_goOn_137 : decode cX2_goOn 137 = .ok (.invokestatic 88, 3) := by decide +kernel
theorem dX2_goOn_140 : decode cX2_goOn 140 = .ok (.goto 4, 3) := by decide +kernel
theorem dX2_goOn_143 : decode cX2_goOn 143 = .ok (.iconst 0, 1) := by decide +kernel
theorem dX2_goOn_144 : decode cX2_goOn 144 = .ok (.iastore, 1) := by decide +kernel
theorem dX2_goOn_145 : decode cX2_goOn 145 = .ok (.iinc 4 1, 3) := by decide +kernel
theorem dX2_goOn_148 : decode cX2_goOn 148 = .ok (.goto (-145), 3) := by decide +kernel
theorem dX2_goOn_151 : decode cX2_goOn 151 = .ok (.return_, 1) := by decide +kernel
theorem dX2_searchParallels_0 : decode cX2_searchParallels 0 = .ok (.iconst 0, 1) := by decide +kernel
theorem dX2_searchParallels_1 : decode cX2_searchParallels 1 = .ok (.istore_n 2, 1) := by decide +kernel
theorem dX2_searchParallels_2 : decode cX2_searchParallels 2 = .ok (.iload_n 2, 1) := by decide +kernel
theorem dX2_searchParallels_3 : decode cX2_searchParallels 3 = .ok (.iconst 4, 1) := by decide +kernel
theorem dX2_searchParallels_4 : decode cX2_searchParallels 4 = .ok (.if_icmp .ge 139, 3) := by decide +kernel
theorem dX2_searchParallels_7 : decode cX2_searchParallels 7 = .ok (.iload_n 2, 1) := by decide +kernel
theorem dX2_searchParallels_8 : decode cX2_searchParallels 8 = .ok (.iconst 1, 1) := by decide +kernel
theorem dX2_searchParallels_9 : decode cX2_searchParallels 9 = .ok (.iadd, 1) := by decide +kernel
theorem dX2_searchParallels_10 : decode cX2_searchParallels 10 = .ok (.istore_n 3, 1) := by decide +kernel
theorem dX2_searchParallels_11 : decode cX2_searchParallels 11 = .ok (.iload_n 3, 1) := by decide +kernel
theorem dX2_searchParallels_12 : decode cX2_searchParallels 12 = .ok (.iconst 4, 1) := by decide +kernel
theorem dX2_searchParallels_13 : decode cX2_searchParallels 13 = .ok (.if_icmp .ge 124, 3) := by decide +kernel
theorem dX2_searchParallels_16 : decode cX2_searchParallels 16 = .ok (.aload_n 0, 1) := by decide +kernel
theorem dX2_searchParallels_17 : decode cX2_searchParallels 17 = .ok (.getfield 31, 3) := by decide +kernel
theorem dX2_searchParallels_20 : decode cX2_searchParallels 20 = .ok (.iload_n 2, 1) := by decide +kernel
theorem dX2_searchParallels_21 : decode cX2_searchParallels 21 = .ok (.iaload, 1) := by decide +kernel
theorem dX2_searchParallels_22 : decode cX2_searchParallels 22 = .ok (.ifCond .eq 109, 3) := by decide +kernel
theorem dX2_searchParallels_25 : decode cX2_searchParallels 25 = .ok (.aload_n 0, 1) := by decide +kernel
theorem dX2_searchParallels_26 : decode cX2_searchParallels 26 = .ok (.getfield 31, 3) := by decide +kernel
theorem dX2_searchParallels_29 : decode cX2_searchParallels 29 = .ok (.iload_n 2, 1) := by decide +kernel
theorem dX2_searchParallels_30 : decode cX2_searchParallels 30 = .ok (.iaload, 1) := by decide +kernel
theorem dX2_searchParallels_31 : decode cX2_searchParallels 31 = .ok (.aload_n 0, 1) := by decide +kernel
theorem dX2_searchParallels_32 : decode cX2_searchParallels 32 = .ok (.getfield 31, 3) := by decide +kernel
theorem dX2_searchParallels_35 : decode cX2_searchParallels 35 = .ok (.iload_n 3, 1) := by decide +kernel
theorem dX2_searchParallels_36 : decode cX2_searchParallels 36 = .ok (.iaload, 1) := by decide +kernel
theorem dX2_searchParallels_37 : decode cX2_searchParallels 37 = .ok (.if_icmp .ne 94, 3) := by decide +kernel
theorem dX2_searchParallels_40 : decode cX2_searchParallels 40 = .ok (.aload_n 0, 1) := by decide +kernel
theorem dX2_searchParallels_41 : decode cX2_searchParallels 41 = .ok (.getfield 21, 3) := by decide +kernel
theorem dX2_searchParallels_44 : decode cX2_searchParallels 44 = .ok (.iload_n 2, 1) := by decide +kernel
theorem dX2_searchParallels_45 : decode cX2_searchParallels 45 = .ok (.iaload, 1) := by decide +kernel
theorem dX2_searchParallels_46 : decode cX2_searchParallels 46 = .ok (.aload_n 0, 1) := by decide +kernel
theorem dX2_searchParallels_47 : decode cX2_searchParallels 47 = .ok (.getfield 21, 3) := by decide +kernel
theorem dX2_searchParallels_50 : decode cX2_searchParallels 50 = .ok (.iload_n 3, 1) := by decide +kernel
theorem dX2_searchParallels_51 : decode cX2_searchParallels 51 = .ok (.iaload, 1) := by decide +kernel
theorem dX2_searchParallels_52 : decode cX2_searchParallels 52 = .ok (.isub, 1) := by decide +kernel
theorem dX2_searchParallels_53 : decode cX2_searchParallels 53 = .ok (.bipush 12, 2) := by decide +kernel
theorem dX2_searchParallels_55 : decode cX2_searchParallels 55 = .ok (.invokestatic 93, 3) := by decide +kernel
theorem dX2_searchParallels_58 : decode cX2_searchParallels 58 = .ok (.istore 4, 2) := by decide +kernel
theorem dX2_searchParallels_60 : decode cX2_searchParallels 60 = .ok (.aload_n 0, 1) := by decide +kernel
theorem dX2_searchParallels_61 : decode cX2_searchParallels 61 = .ok (.getfield 24, 3) := by decide +kernel
theorem dX2_searchParallels_64 : decode cX2_searchParallels 64 = .ok (.iload_n 2, 1) := by decide +kernel
theorem dX2_searchParallels_65 : decode cX2_searchParallels 65 = .ok (.iaload, 1) := by decide +kernel
theorem dX2_searchParallels_66 : decode cX2_searchParallels 66 = .ok (.aload_n 0, 1) := by decide +kernel
theorem dX2_searchParallels_67 : decode cX2_searchParallels 67 = .ok (.getfield 24, 3) := by decide +kernel
theorem dX2_searchParallels_70 : decode cX2_searchParallels 70 = .ok (.iload_n 3, 1) := by decide +kernel
theorem dX2_searchParallels_71 : decode cX2_searchParallels 71 = .ok (.iaload, 1) := by decide +kernel
theorem dX2_searchParallels_72 : decode cX2_searchParallels 72 = .ok (.isub, 1) := by decide +kernel
theorem dX2_searchParallels_73 : decode cX2_searchParallels 73 = .ok (.bipush 12, 2) := by decide +kernel
theorem dX2_searchParallels_75 : decode cX2_searchParallels 75 = .ok (.invokestatic 93, 3) := by decide +kernel
theorem dX2_searchParallels_78 : decode cX2_searchParallels 78 = .ok (.istore 5, 2) := by decide +kernel
theorem dX2_searchParallels_80 : decode cX2_searchParallels 80 = .ok (.iload 4, 2) := by decide +kernel
theorem dX2_searchParallels_82 : decode cX2_searchParallels 82 = .ok (.iload 5, 2) := by decide +kernel
theorem dX2_searchParallels_84 : decode cX2_searchParallels 84 = .ok (.if_icmp .ne 24, 3) := by decide +kernel
theorem dX2_searchParallels_87 : decode cX2_searchParallels 87 = .ok (.iload 5, 2) := by decide +kernel
theorem dX2_searchParallels_89 : decode cX2_searchParallels 89 = .ok (.bipush 7, 2) := by decide +kernel
theorem dX2_searchParallels_91 : decode cX2_searchParallels 91 = .ok (.if_icmp .ne 17, 3) := by decide +kernel
theorem dX2_searchParallels_94 : decode cX2_searchParallels 94 = .ok (.aload_n 0, 1) := by decide +kernel
theorem dX2_searchParallels_95 : decode cX2_searchParallels 95 = .ok (.iconst 0, 1) := by decide +kernel
theorem dX2_searchParallels_96 : decode cX2_searchParallels 96 = .ok (.iload_n 1, 1) := by decide +kernel
theorem dX2_searchParallels_97 : decode cX2_searchParallels 97 = .ok (.iconst 4, 1) := by decide +kernel
theorem dX2_searchParallels_98 : decode cX2_searchParallels 98 = .ok (.iload_n 2, 1) := by decide +kernel
theorem dX2_searchParallels_99 : decode cX2_searchParallels 99 = .ok (.imul, 1) := by decide +kernel
theorem dX2_searchParallels_100 : decode cX2_searchParallels 100 = .ok (.iload_n 3, 1) := by decide +kernel
theorem dX2_searchParallels_101 : decode cX2_searchParallels 101 = .ok (.iadd, 1) := by decide +kernel
theorem dX2_searchParallels_102 : decode cX2_searchParallels 102 = .ok (.invokevirtual 98, 3) := by decide +kernel
theorem dX2_searchParallels_105 : decode cX2_searchParallels 105 = .ok (.goto 26, 3) := by decide +kernel
theorem dX2_searchParallels_108 : decode cX2_searchParallels 108 = .ok (.iload 4, 2) := by decide +kernel
theorem dX2_searchParallels_110 : decode cX2_searchParallels 110 = .ok (.iload 5, 2) := by decide +kernel
theorem dX2_searchParallels_112 : decode cX2_searchParallels 112 = .ok (.if_icmp .ne 19, 3) := by decide +kernel
theorem dX2_searchParallels_115 : decode cX2_searchParallels 115 = .ok (.iload 5, 2) := by decide +kernel
theorem dX2_searchParallels_117 : decode cX2_searchParallels 117 = .ok (.ifCond .ne 14, 3) := by decide +kernel
theorem dX2_searchParallels_120 : decode cX2_searchParallels 120 = .ok (.aload_n 0, 1) := by decide +kernel
theorem dX2_searchParallels_121 : decode cX2_searchParallels 121 = .ok (.iconst 1, 1) := by decide +kernel
theorem dX2_searchParallels_122 : decode cX2_searchParallels 122 = .ok (.iload_n 1, 1) := by decide +kernel
theorem dX2_searchParallels_123 : decode cX2_searchParallels 123 = .ok (.iconst 4, 1) := by decide +kernel
theorem dX2_searchParallels_124 : decode cX2_searchParallels 124 = .ok (.iload_n 2, 1) := by decide +kernel
theorem dX2_searchParallels_125 : decode cX2_searchParallels 125 = .ok (.imul, 1) := by decide +kernel
theorem dX2_searchParallels_126 : decode cX2_searchParallels 126 = .ok (.iload_n 3, 1) := by decide +kernel
theorem dX2_searchParallels_127 : decode cX2_searchParallels 127 = .ok (.iadd, 1) := by decide +kernel
theorem dX2_searchParallels_128 : decode cX2_searchParallels 128 = .ok (.invokevirtual 98, 3) := by decide +kernel
theorem dX2_searchParallels_131 : decode cX2_searchParallels 131 = .ok (.iinc 3 1, 3) := by decide +kernel
theorem dX2_searchParallels_134 : decode cX2_searchParallels 134 = .ok (.goto (-123), 3) := by decide +kernel
theorem dX2_searchParallels_137 : decode cX2_searchParallels 137 = .ok (.iinc 2 1, 3) := by decide +kernel
theorem dX2_searchParallels_140 : decode cX2_searchParallels 140 = .ok (.goto (-138), 3) := by decide +kernel
theorem dX2_searchParallels_143 : decode cX2_searchParallels 143 = .ok (.return_, 1) := by decide +kernel
theorem dX2_searchCrossings_0 : decode cX2_searchCrossings 0 = .ok (.iconst 0, 1) := by decide +kernel
theorem dX2_searchCrossings_1 : decode cX2_searchCrossings 1 = .ok (.istore_n 2, 1) := by decide +kernel
theorem dX2_searchCrossings_2 : decode cX2_searchCrossings 2 = .ok (.iload_n 2, 1) := by decide +kernel
theorem dX2_searchCrossings_3 : decode cX2_searchCrossings 3 = .ok (.iconst 4, 1) := by decide +kernel
theorem dX2_searchCrossings_4 : decode cX2_searchCrossings 4 = .ok (.if_icmp .ge 100, 3) := by decide +kernel
theorem dX2_searchCrossings_7 : decode cX2_searchCrossings 7 = .ok (.iload_n 2, 1) := by decide +kernel
theorem dX2_searchCrossings_8 : decode cX2_searchCrossings 8 = .ok (.iconst 1, 1) := by decide +kernel
theorem dX2_searchCrossings_9 : decode cX2_searchCrossings 9 = .ok (.iadd, 1) := by decide +kernel
theorem dX2_searchCrossings_10 : decode cX2_searchCrossings 10 = .ok (.istore_n 3, 1) := by decide +kernel
theorem dX2_searchCrossings_11 : decode cX2_searchCrossings 11 = .ok (.iload_n 3, 1) := by decide +kernel
theorem dX2_searchCrossings_12 : decode cX2_searchCrossings 12 = .ok (.iconst 4, 1) := by decide +kernel
theorem dX2_searchCrossings_13 : decode cX2_searchCrossings 13 = .ok (.if_icmp .ge 85, 3) := by decide +kernel
theorem dX2_searchCrossings_16 : decode cX2_searchCrossings 16 = .ok (.aload_n 0, 1) := by decide +kernel
theorem dX2_searchCrossings_17 : decode cX2_searchCrossings 17 = .ok (.getfield 24, 3) := by decide +kernel
theorem dX2_searchCrossings_20 : decode cX2_searchCrossings 20 = .ok (.iload_n 2, 1) := by decide +kernel
theorem dX2_searchCrossings_21 : decode cX2_searchCrossings 21 = .ok (.iaload, 1) := by decide +kernel
theorem dX2_searchCrossings_22 : decode cX2_searchCrossings 22 = .ok (.iconst (-1), 1) := by decide +kernel
theorem dX2_searchCrossings_23 : decode cX2_searchCrossings 23 = .ok (.if_icmp .eq 17, 3) := by decide +kernel
theorem dX2_searchCrossings_26 : decode cX2_searchCrossings 26 = .ok (.aload_n 0, 1) := by decide +kernel
theorem dX2_searchCrossings_27 : decode cX2_searchCrossings 27 = .ok (.getfield 24, 3) := by decide +kernel
theorem dX2_searchCrossings_30 : decode cX2_searchCrossings 30 = .ok (.iload_n 3, 1) := by decide +kernel
theorem dX2_searchCrossings_31 : decode cX2_searchCrossings 31 = .ok (.iaload, 1) := by decide +kernel
theorem dX2_searchCrossings_32 : decode cX2_searchCrossings 32 = .ok (.iconst (-1), 1) := by decide +kernel
theorem dX2_searchCrossings_33 : decode cX2_searchCrossings 33 = .ok (.if_icmp .eq 7, 3) := by decide +kernel
theorem dX2_searchCrossings_36 : decode cX2_searchCrossings 36 = .ok (.iconst 1, 1) := by decide +kernel
theorem dX2_searchCrossings_37 : decode cX2_searchCrossings 37 = .ok (.goto 4, 3) := by decide +kernel
theorem dX2_searchCrossings_40 : decode cX2_searchCrossings 40 = .ok (.iconst 0, 1) := by decide +kernel
theorem dX2_searchCrossings_41 : decode cX2_searchCrossings 41 = .ok (.istore 4, 2) := by decide +kernel
theorem dX2_searchCrossings_43 : decode cX2_searchCrossings 43 = .ok (.iload 4, 2) := by decide +kernel
theorem dX2_searchCrossings_45 : decode cX2_searchCrossings 45 = .ok (.ifCond .eq 47, 3) := by decide +kernel
theorem dX2_searchCrossings_48 : decode cX2_searchCrossings 48 = .ok (.aload_n 0, 1) := by decide +kernel
theorem dX2_searchCrossings_49 : decode cX2_searchCrossings 49 = .ok (.getfield 27, 3) := by decide +kernel
theorem dX2_searchCrossings_52 : decode cX2_searchCrossings 52 = .ok (.iload_n 2, 1) := by decide +kernel
theorem dX2_searchCrossings_53 : decode cX2_searchCrossings 53 = .ok (.baload, 1) := by decide +kernel
theorem dX2_searchCrossings_54 : decode cX2_searchCrossings 54 = .ok (.ifCond .ne 12, 3) := by decide +kernel
theorem dX2_searchCrossings_57 : decode cX2_searchCrossings 57 = .ok (.aload_n 0, 1) := by decide +kernel
theorem dX2_searchCrossings_58 : decode cX2_searchCrossings 58 = .ok (.getfield 27, 3) := by decide +kernel
theorem dX2_searchCrossings_61 : decode cX2_searchCrossings 61 = .ok (.iload_n 3, 1) := by decide +kernel
theorem dX2_searchCrossings_62 : decode cX2_searchCrossings 62 = .ok (.baload, 1) := by decide +kernel
theorem dX2_searchCrossings_63 : decode cX2_searchCrossings 63 = .ok (.ifCond .eq 29, 3) := by decide +kernel
theorem dX2_searchCrossings_66 : decode cX2_searchCrossings 66 = .ok (.aload_n 0, 1) := by decide +kernel
theorem dX2_searchCrossings_67 : decode cX2_searchCrossings 67 = .ok (.getfield 24, 3) := by decide +kernel
theorem dX2_searchCrossings_70 : decode cX2_searchCrossings 70 = .ok (.iload_n 2, 1) := by decide +kernel
theorem dX2_searchCrossings_71 : decode cX2_searchCrossings 71 = .ok (.iaload, 1) := by decide +kernel
theorem dX2_searchCrossings_72 : decode cX2_searchCrossings 72 = .ok (.aload_n 0, 1) := by decide +kernel
theorem dX2_searchCrossings_73 : decode cX2_searchCrossings 73 = .ok (.getfield 24, 3) := by decide +kernel
theorem dX2_searchCrossings_76 : decode cX2_searchCrossings 76 = .ok (.iload_n 3, 1) := by decide +kernel
theorem dX2_searchCrossings_77 : decode cX2_searchCrossings 77 = .ok (.iaload, 1) := by decide +kernel
theorem dX2_searchCrossings_78 : decode cX2_searchCrossings 78 = .ok (.if_icmp .ge 14, 3) := by decide +kernel
theorem dX2_searchCrossings_81 : decode cX2_searchCrossings 81 = .ok (.aload_n 0, 1) := by decide +kernel
theorem dX2_searchCrossings_82 : decode cX2_searchCrossings 82 = .ok (.iconst 2, 1) := by decide +kernel
theorem dX2_searchCrossings_83 : decode cX2_searchCrossings 83 = .ok (.iload_n 1, 1) := by decide +kernel
theorem dX2_searchCrossings_84 : decode cX2_searchCrossings 84 = .ok (.iconst 4, 1) := by decide +kernel
theorem dX2_searchCrossings_85 : decode cX2_searchCrossings 85 = .ok (.iload_n 2, 1) := by decide +kernel
theorem dX2_searchCrossings_86 : decode cX2_searchCrossings 86 = .ok (.imul, 1) := by decide +kernel
theorem dX2_searchCrossings_87 : decode cX2_searchCrossings 87 = .ok (.iload_n 3, 1) := by decide +kernel
theorem dX2_searchCrossings_88 : decode cX2_searchCrossings 88 = .ok (.iadd, 1) := by decide +kernel
theorem dX2_searchCrossings_89 : decode cX2_searchCrossings 89 = .ok (.invokevirtual 98, 3) := by decide +kernel
theorem dX2_searchCrossings_92 : decode cX2_searchCrossings 92 = .ok (.iinc 3 1, 3) := by decide +kernel
theorem dX2_searchCrossings_95 : decode cX2_searchCrossings 95 = .ok (.goto (-84), 3) := by decide +kernel
theorem dX2_searchCrossings_98 : decode cX2_searchCrossings 98 = .ok (.iinc 2 1, 3) := by decide +kernel
theorem dX2_searchCrossings_101 : decode cX2_searchCrossings 101 = .ok (.goto (-99), 3) := by decide +kernel
theorem dX2_searchCrossings_104 : decode cX2_searchCrossings 104 = .ok (.return_, 1) := by decide +kernel
theorem dX2_searchNote_0 : decode cX2_searchNote 0 = .ok (.aload_n 1, 1) := by decide +kernel
theorem dX2_searchNote_1 : decode cX2_searchNote 1 = .ok (.iload_n 3, 1) := by decide +kernel
theorem dX2_searchNote_2 : decode cX2_searchNote 2 = .ok (.invokevirtual 85, 3) := by decide +kernel
theorem dX2_searchNote_5 : decode cX2_searchNote 5 = .ok (.istore 4, 2) := by decide +kernel
theorem dX2_searchNote_7 : decode cX2_searchNote 7 = .ok (.aload_n 1, 1) := by decide +kernel
theorem dX2_searchNote_8 : decode cX2_searchNote 8 = .ok (.iload_n 3, 1) := by decide +kernel
theorem dX2_searchNote_9 : decode cX2_searchNote 9 = .ok (.iconst 1, 1) := by decide +kernel
theorem dX2_searchNote_10 : decode cX2_searchNote 10 = .ok (.isub, 1) := by decide +kernel
theorem dX2_searchNote_11 : decode cX2_searchNote 11 = .ok (.invokevirtual 82, 3) := by decide +kernel
theorem dX2_searchNote_14 : decode cX2_searchNote 14 = .ok (.ifCond .eq 32, 3) := by decide +kernel
theorem dX2_searchNote_17 : decode cX2_searchNote 17 = .ok (.aload_n 1, 1) := by decide +kernel
theorem dX2_searchNote_18 : decode cX2_searchNote 18 = .ok (.iload_n 3, 1) := by decide +kernel
theorem dX2_searchNote_19 : decode cX2_searchNote 19 = .ok (.invokevirtual 77, 3) := by decide +kernel
theorem dX2_searchNote_22 : decode cX2_searchNote 22 = .ok (.aload_n 1, 1) := by decide +kernel
theorem dX2_searchNote_23 : decode cX2_searchNote 23 = .ok (.iload_n 3, 1) := by decide +kernel
theorem dX2_searchNote_24 : decode cX2_searchNote 24 = .ok (.iconst 1, 1) := by decide +kernel
theorem dX2_searchNote_25 : decode cX2_searchNote 25 = .ok (.isub, 1) := by decide +kernel
theorem dX2_searchNote_26 : decode cX2_searchNote 26 = .ok (.invokevirtual 77, 3) := by decide +kernel
theorem dX2_searchNote_29 : decode cX2_searchNote 29 = .ok (.isub, 1) := by decide +kernel
theorem dX2_searchNote_30 : decode cX2_searchNote 30 = .ok (.invokestatic 102, 3) := by decide +kernel
theorem dX2_searchNote_33 : decode cX2_searchNote 33 = .ok (.bipush 12, 2) := by decide +kernel
theorem dX2_searchNote_35 : decode cX2_searchNote 35 = .ok (.if_icmp .le 11, 3) := by decide +kernel
theorem dX2_searchNote_38 : decode cX2_searchNote 38 = .ok (.aload_n 0, 1) := by decide +kernel
theorem dX2_searchNote_39 : decode cX2_searchNote 39 = .ok (.iconst 3, 1) := by decide +kernel
theorem dX2_searchNote_40 : decode cX2_searchNote 40 = .ok (.iload 4, 2) := by decide +kernel
theorem dX2_searchNote_42 : decode cX2_searchNote 42 = .ok (.iload_n 2, 1) := by decide +kernel
theorem dX2_searchNote_43 : decode cX2_searchNote 43 = .ok (.invokevirtual 98, 3) := by decide +kernel
theorem dX2_searchNote_46 : decode cX2_searchNote 46 = .ok (.aload_n 1, 1) := by decide +kernel
theorem dX2_searchNote_47 : decode cX2_searchNote 47 = .ok (.iload_n 3, 1) := by decide +kernel
theorem dX2_searchNote_48 : decode cX2_searchNote 48 = .ok (.invokevirtual 105, 3) := by decide +kernel
theorem dX2_searchNote_51 : decode cX2_searchNote 51 = .ok (.ifCond .eq 11, 3) := by decide +kernel
theorem dX2_searchNote_54 : decode cX2_searchNote 54 = .ok (.aload_n 0, 1) := by decide +kernel
theorem dX2_searchNote_55 : decode cX2_searchNote 55 = .ok (.iconst 4, 1) := by decide +kernel
theorem dX2_searchNote_56 : decode cX2_searchNote 56 = .ok (.iload 4, 2) := by decide +kernel
theorem dX2_searchNote_58 : decode cX2_searchNote 58 = .ok (.iload_n 2, 1) := by decide +kernel
theorem dX2_searchNote_59 : decode cX2_searchNote 59 = .ok (.invokevirtual 98, 3) := by decide +kernel
theorem dX2_searchNote_62 : decode cX2_searchNote 62 = .ok (.return_, 1) := by decide +kernel
theorem dX3_init_0 : decode cX3_init 0 = .ok (.aload_n 0, 1) := by decide +kernel
theorem dX3_init_1 : decode cX3_init 1 = .ok (.invokespecial 3, 3) := by decide +kernel
theorem dX3_init_4 : decode cX3_init 4 = .ok (.aload_n 0, 1) := by decide +kernel
theorem dX3_init_5 : decode cX3_init 5 = .ok (.sipush 512, 3) := by decide +kernel
theorem dX3_init_8 : decode cX3_init 8 = .ok (.newarray .int, 2) := by decide +kernel
theorem dX3_init_10 : decode cX3_init 10 = .ok (.putfield 9, 3) := by decide +kernel
theorem dX3_init_13 : decode cX3_init 13 = .ok (.aload_n 0, 1) := by decide +kernel
theorem dX3_init_14 : decode cX3_init 14 = .ok (.sipush 2048, 3) := by decide +kernel
theorem dX3_init_17 : decode cX3_init 17 = .ok (.newarray .int, 2) := by decide +kernel
theorem dX3_init_19 : decode cX3_init 19 = .ok (.putfield 15, 3) := by decide +kernel
theorem dX3_init_22 : decode cX3_init 22 = .ok (.aload_n 0, 1) := by decide +kernel
theorem dX3_init_23 : decode cX3_init 23 = .ok (.iconst 4, 1) := by decide +kernel
theorem dX3_init_24 : decode cX3_init 24 = .ok (.newarray .int, 2) := by decide +kernel
theorem dX3_init_26 : decode cX3_init 26 = .ok (.putfield 18, 3) := by decide +kernel
theorem dX3_init_29 : decode cX3_init 29 = .ok (.return_, 1) := by decide +kernel
theorem dX3_size_0 : decode cX3_size 0 = .ok (.aload_n 0, 1) := by decide +kernel
theorem dX3_size_1 : decode cX3_size 1 = .ok (.getfield 21, 3) := by decide +kernel
theorem dX3_size_4 : decode cX3_size 4 = .ok (.ireturn, 1) := by decide +kernel
theorem dX3_has_0 : decode cX3_has 0 = .ok (.iload_n 1, 1) := by decide +kernel
theorem dX3_has_1 : decode cX3_has 1 = .ok (.ifCond .lt 22, 3) := by decide +kernel
theorem dX3_has_4 : decode cX3_has 4 = .ok (.iload_n 1, 1) := by decide +kernel
theorem dX3_has_5 : decode cX3_has 5 = .ok (.aload_n 0, 1) := by decide +kernel
theorem dX3_has_6 : decode cX3_has 6 = .ok (.getfield 21, 3) := by decide +kernel
theorem dX3_has_9 : decode cX3_has 9 = .ok (.if_icmp .ge 14, 3) := by decide +kernel
theorem dX3_has_12 : decode cX3_has 12 = .ok (.iload_n 1, 1) := by decide +kernel
theorem dX3_has_13 : decode cX3_has 13 = .ok (.sipush 512, 3) := by decide +kernel
theorem dX3_has_16 : decode cX3_has 16 = .ok (.if_icmp .ge 7, 3) := by decide +kernel
theorem dX3_has_19 : decode cX3_has 19 = .ok (.iconst 1, 1) := by decide +kernel
theorem dX3_has_20 : decode cX3_has 20 = .ok (.goto 4, 3) := by decide +kernel
theorem dX3_has_23 : decode cX3_has 23 = .ok (.iconst 0, 1) := by decide +kernel
theorem dX3_has_24 : decode cX3_has 24 = .ok (.ireturn, 1) := by decide +kernel
theorem dX3_tickAt_0 : decode cX3_tickAt 0 = .ok (.aload_n 0, 1) := by decide +kernel
theorem dX3_tickAt_1 : decode cX3_tickAt 1 = .ok (.iload_n 1, 1) := by decide +kernel
theorem dX3_tickAt_2 : decode cX3_tickAt 2 = .ok (.invokevirtual 25, 3) := by decide +kernel
theorem dX3_tickAt_5 : decode cX3_tickAt 5 = .ok (.ifCond .eq 12, 3) := by decide +kernel
theorem dX3_tickAt_8 : decode cX3_tickAt 8 = .ok (.aload_n 0, 1) := by decide +kernel
theorem dX3_tickAt_9 : decode cX3_tickAt 9 = .ok (.getfield 9, 3) := by decide +kernel
theorem dX3_tickAt_12 : decode cX3_tickAt 12 = .ok (.iload_n 1, 1) := by decide +kernel
theorem dX3_tickAt_13 : decode cX3_tickAt 13 = .ok (.iaload, 1) := by decide +kernel
theorem dX3_tickAt_14 : decode cX3_tickAt 14 = .ok (.goto 4, 3) := by decide +kernel
theorem dX3_tickAt_17 : decode cX3_tickAt 17 = .ok (.iconst (-1), 1) := by decide +kernel
theorem dX3_tickAt_18 : decode cX3_tickAt 18 = .ok (.ireturn, 1) := by decide +kernel
theorem dX3_eventAt_0 : decode cX3_eventAt 0 = .ok (.aload_n 0, 1) := by decide +kernel
theorem dX3_eventAt_1 : decode cX3_eventAt 1 = .ok (.iload_n 1, 1) := by decide +kernel
theorem dX3_eventAt_2 : decode cX3_eventAt 2 = .ok (.invokevirtual 25, 3) := by decide +kernel
theorem dX3_eventAt_5 : decode cX3_eventAt 5 = .ok (.ifCond .eq 25, 3) := by decide +kernel
theorem dX3_eventAt_8 : decode cX3_eventAt 8 = .ok (.iload_n 2, 1) := by decide +kernel
theorem dX3_eventAt_9 : decode cX3_eventAt 9 = .ok (.ifCond .lt 21, 3) := by decide +kernel
theorem dX3_eventAt_12 : decode cX3_eventAt 12 = .ok (.iload_n 2, 1) := by decide +kernel
theorem dX3_eventAt_13 : decode cX3_eventAt 13 = .ok (.iconst 4, 1) := by decide +kernel
theorem dX3_eventAt_14 : decode cX3_eventAt 14 = .ok (.if_icmp .ge 16, 3) := by decide +kernel
theorem dX3_eventAt_17 : decode cX3_eventAt 17 = .ok (.aload_n 0, 1) := by decide +kernel
theorem dX3_eventAt_18 : decode cX3_eventAt 18 = .ok (.getfield 15, 3) := by decide +kernel
theorem dX3_eventAt_21 : decode cX3_eventAt 21 = .ok (.iload_n 1, 1) := by decide +kernel
theorem dX3_eventAt_22 : decode cX3_eventAt 22 = .ok (.iconst 4, 1) := by decide +kernel
theorem dX3_eventAt_23 : decode cX3_eventAt 23 = .ok (.imul, 1) := by decide +kernel
theorem dX3_eventAt_24 : decode cX3_eventAt 24 = .ok (.iload_n 2, 1) := by decide +kernel
theorem dX3_eventAt_25 : decode cX3_eventAt 25 = .ok (.iadd, 1) := by decide +kernel
theorem dX3_eventAt_26 : decode cX3_eventAt 26 = .ok (.iaload, 1) := by decide +kernel
theorem dX3_eventAt_27 : decode cX3_eventAt 27 = .ok (.goto 4, 3) := by decide +kernel
theorem dX3_eventAt_30 : decode cX3_eventAt 30 = .ok (.iconst (-1), 1) := by decide +kernel
theorem dX3_eventAt_31 : decode cX3_eventAt 31 = .ok (.ireturn, 1) := by decide +kernel
theorem dX3_listen_0 : decode cX3_listen 0 = .ok (.aload_n 0, 1) := by decide +kernel
theorem dX3_listen_1 : decode cX3_listen 1 = .ok (.getfield 18, 3) := by decide +kernel
theorem dX3_listen_4 : decode cX3_listen 4 = .ok (.iconst 0, 1) := by decide +kernel
theorem dX3_listen_5 : decode cX3_listen 5 = .ok (.invokestatic 29, 3) := by decide +kernel
theorem dX3_listen_8 : decode cX3_listen 8 = .ok (.aload_n 0, 1) := by decide +kernel
theorem dX3_listen_9 : decode cX3_listen 9 = .ok (.iconst 0, 1) := by decide +kernel
theorem dX3_listen_10 : decode cX3_listen 10 = .ok (.putfield 21, 3) := by decide +kernel
theorem dX3_listen_13 : decode cX3_listen 13 = .ok (.iconst 0, 1) := by decide +kernel
theorem dX3_listen_14 : decode cX3_listen 14 = .ok (.istore_n 2, 1) := by decide +kernel
theorem dX3_listen_15 : decode cX3_listen 15 = .ok (.iload_n 2, 1) := by decide +kernel
theorem dX3_listen_16 : decode cX3_listen 16 = .ok (.sipush 512, 3) := by decide +kernel
theorem dX3_listen_19 : decode cX3_listen 19 = .ok (.if_icmp .ge 79, 3) := by decide +kernel
theorem dX3_listen_22 : decode cX3_listen 22 = .ok (.aload_n 0, 1) := by decide +kernel
theorem dX3_listen_23 : decode cX3_listen 23 = .ok (.aload_n 1, 1) := by decide +kernel
theorem dX3_listen_24 : decode cX3_listen 24 = .ok (.invokevirtual 35, 3) := by decide +kernel
theorem dX3_listen_27 : decode cX3_listen 27 = .ok (.istore_n 3, 1) := by decide +kernel
theorem dX3_listen_28 : decode cX3_listen 28 = .ok (.iload_n 3, 1) := by decide +kernel
theorem dX3_listen_29 : decode cX3_listen 29 = .ok (.iconst (-1), 1) := by decide +kernel
theorem dX3_listen_30 : decode cX3_listen 30 = .ok (.if_icmp .ne 4, 3) := by decide +kernel
theorem dX3_listen_33 : decode cX3_listen 33 = .ok (.return_, 1) := by decide +kernel
theorem dX3_listen_34 : decode cX3_listen 34 = .ok (.aload_n 0, 1) := by decide +kernel
theorem dX3_listen_35 : decode cX3_listen 35 = .ok (.getfield 9, 3) := by decide +kernel
theorem dX3_listen_38 : decode cX3_listen 38 = .ok (.iload_n 2, 1) := by decide +kernel
theorem dX3_listen_39 : decode cX3_listen 39 = .ok (.iload_n 3, 1) := by decide +kernel
theorem dX3_listen_40 : decode cX3_listen 40 = .ok (.iastore, 1) := by decide +kernel
theorem dX3_listen_41 : decode cX3_listen 41 = .ok (.aload_n 0, 1) := by decide +kernel
theorem dX3_listen_42 : decode cX3_listen 42 = .ok (.iload_n 2, 1) := by decide +kernel
theorem dX3_listen_43 : decode cX3_listen 43 = .ok (.iconst 1, 1) := by decide +kernel
theorem dX3_listen_44 : decode cX3_listen 44 = .ok (.iadd, 1) := by decide +kernel
theorem dX3_listen_45 : decode cX3_listen 45 = .ok (.putfield 21, 3) := by decide +kernel
theorem dX3_listen_48 : decode cX3_listen 48 = .ok (.iconst 0, 1) := by decide +kernel
theorem dX3_listen_49 : decode cX3_listen 49 = .ok (.istore 4, 2) := by decide +kernel
theorem dX3_listen_51 : decode cX3_listen 51 = .ok (.iload 4, 2) := by decide +kernel
theorem dX3_listen_53 : decode cX3_listen 53 = .ok (.aload_n 1, 1) := by decide +kernel
theorem dX3_listen_54 : decode cX3_listen 54 = .ok (.arraylength, 1) := by decide +kernel
theorem dX3_listen_55 : decode cX3_listen 55 = .ok (.if_icmp .ge 37, 3) := by decide +kernel
theorem dX3_listen_58 : decode cX3_listen 58 = .ok (.iload 4, 2) := by decide +kernel
theorem dX3_listen_60 : decode cX3_listen 60 = .ok (.iconst 4, 1) := by decide +kernel
theorem dX3_listen_61 : decode cX3_listen 61 = .ok (.if_icmp .ge 31, 3) := by decide +kernel
theorem dX3_listen_64 : decode cX3_listen 64 = .ok (.aload_n 0, 1) := by decide +kernel
theorem dX3_listen_65 : decode cX3_listen 65 = .ok (.getfield 15, 3) := by decide +kernel
theorem dX3_listen_68 : decode cX3_listen 68 = .ok (.iload_n 2, 1) := by decide +kernel
theorem dX3_listen_69 : decode cX3_listen 69 = .ok (.iconst 4, 1) := by decide +kernel
theorem dX3_listen_70 : decode cX3_listen 70 = .ok (.imul, 1) := by decide +kernel
theorem dX3_listen_71 : decode cX3_listen 71 = .ok (.iload 4, 2) := by decide +kernel
theorem dX3_listen_73 : decode cX3_listen 73 = .ok (.iadd, 1) := by decide +kernel
theorem dX3_listen_74 : decode cX3_listen 74 = .ok (.aload_n 0, 1) := by decide +kernel
theorem dX3_listen_75 : decode cX3_listen 75 = .ok (.aload_n 1, 1) := by decide +kernel
theorem dX3_listen_76 : decode cX3_listen 76 = .ok (.iload 4, 2) := by decide +kernel
theorem dX3_listen_78 : decode cX3_listen 78 = .ok (.aaload, 1) := by decide +kernel
theorem dX3_listen_79 : decode cX3_listen 79 = .ok (.iload 4, 2) := by decide +kernel
theorem dX3_listen_81 : decode cX3_listen 81 = .ok (.iload_n 3, 1) := by decide +kernel
theorem dX3_listen_82 : decode cX3_listen 82 = .ok (.invokevirtual 39, 3) := by decide +kernel
theorem dX3_listen_85 : decode cX3_listen 85 = .ok (.iastore, 1) := by decide +kernel
theorem dX3_listen_86 : decode cX3_listen 86 = .ok (.iinc 4 1, 3) := by decide +kernel
theorem dX3_listen_89 : decode cX3_listen 89 = .ok (.goto (-38), 3) := by decide +kernel
theorem dX3_listen_92 : decode cX3_listen 92 = .ok (.iinc 2 1, 3) := by decide +kernel
theorem dX3_listen_95 : decode cX3_listen 95 = .ok (.goto (-80), 3) := by decide +kernel
theorem dX3_listen_98 : decode cX3_listen 98 = .ok (.return_, 1) := by decide +kernel
theorem dX3_nextBegin_0 : decode cX3_nextBegin 0 = .ok (.iconst (-1), 1) := by decide +kernel
theorem dX3_nextBegin_1 : decode cX3_nextBegin 1 = .ok (.istore_n 2, 1) := by decide +kernel
theorem dX3_nextBegin_2 : decode cX3_nextBegin 2 = .ok (.iconst 0, 1) := by decide +kernel
theorem dX3_nextBegin_3 : decode cX3_nextBegin 3 = .ok (.istore_n 3, 1) := by decide +kernel
theorem dX3_nextBegin_4 : decode cX3_nextBegin 4 = .ok (.iload_n 3, 1) := by decide +kernel
theorem dX3_nextBegin_5 : decode cX3_nextBegin 5 = .ok (.aload_n 1, 1) := by decide +kernel
theorem dX3_nextBegin_6 : decode cX3_nextBegin 6 = .ok (.arraylength, 1) := by decide +kernel
theorem dX3_nextBegin_7 : decode cX3_nextBegin 7 = .ok (.if_icmp .ge 60, 3) := by decide +kernel
theorem dX3_nextBegin_10 : decode cX3_nextBegin 10 = .ok (.iload_n 3, 1) := by decide +kernel
theorem dX3_nextBegin_11 : decode cX3_nextBegin 11 = .ok (.iconst 4, 1) := by decide +kernel
theorem dX3_nextBegin_12 : decode cX3_nextBegin 12 = .ok (.if_icmp .ge 55, 3) := by decide +kernel
theorem dX3_nextBegin_15 : decode cX3_nextBegin 15 = .ok (.aload_n 0, 1) := by decide +kernel
theorem dX3_nextBegin_16 : decode cX3_nextBegin 16 = .ok (.getfield 18, 3) := by decide +kernel
theorem dX3_nextBegin_19 : decode cX3_nextBegin 19 = .ok (.iload_n 3, 1) := by decide +kernel
theorem dX3_nextBegin_20 : decode cX3_nextBegin 20 = .ok (.iaload, 1) := by decide +kernel
theorem dX3_nextBegin_21 : decode cX3_nextBegin 21 = .ok (.istore 4, 2) := by decide +kernel
theorem dX3_nextBegin_23 : decode cX3_nextBegin 23 = .ok (.aload_n 1, 1) := by decide +kernel
theorem dX3_nextBegin_24 : decode cX3_nextBegin 24 = .ok (.iload_n 3, 1) := by decide +kernel
theorem dX3_nextBegin_25 : decode cX3_nextBegin 25 = .ok (.aaload, 1) := by decide +kernel
theorem dX3_nextBegin_26 : decode cX3_nextBegin 26 = .ok (.iload 4, 2) := by decide +kernel
theorem dX3_nextBegin_28 : decode cX3_nextBegin 28 = .ok (.invokevirtual 43, 3) := by decide +kernel
theorem dX3_nextBegin_31 : decode cX3_nextBegin 31 = .ok (.ifCond .eq 30, 3) := by decide +kernel
theorem dX3_nextBegin_34 : decode cX3_nextBegin 34 = .ok (.aload_n 1, 1) := by decide +kernel
theorem dX3_nextBegin_35 : decode cX3_nextBegin 35 = .ok (.iload_n 3, 1) := by decide +kernel
theorem dX3_nextBegin_36 : decode cX3_nextBegin 36 = .ok (.aaload, 1) := by decide +kernel
theorem dX3_nextBegin_37 : decode cX3_nextBegin 37 = .ok (.iload 4, 2) := by decide +kernel
theorem dX3_nextBegin_39 : decode cX3_nextBegin 39 = .ok (.invokevirtual 46, 3) := by decide +kernel
theorem dX3_nextBegin_42 : decode cX3_nextBegin 42 = .ok (.istore 5, 2) := by decide +kernel
theorem dX3_nextBegin_44 : decode cX3_nextBegin 44 = .ok (.iload_n 2, 1) := by decide +kernel
theorem dX3_nextBegin_45 : decode cX3_nextBegin 45 = .ok (.iconst (-1), 1) := by decide +kernel
theorem dX3_nextBegin_46 : decode cX3_nextBegin 46 = .ok (.if_icmp .ne 8, 3) := by decide +kernel
theorem dX3_nextBegin_49 : decode cX3_nextBegin 49 = .ok (.iload 5, 2) := by decide +kernel
theorem dX3_nextBegin_51 : decode cX3_nextBegin 51 = .ok (.goto 9, 3) := by decide +kernel
theorem dX3_nextBegin_54 : decode cX3_nextBegin 54 = .ok (.iload_n 2, 1) := by decide +kernel
theorem dX3_nextBegin_55 : decode cX3_nextBegin 55 = .ok (.iload 5, 2) := by decide +kernel
theorem dX3_nextBegin_57 : decode cX3_nextBegin 57 = .ok (.invokestatic 50, 3) := by decide +kernel
theorem dX3_nextBegin_60 : decode cX3_nextBegin 60 = .ok (.istore_n 2, 1) := by decide +kernel
theorem dX3_nextBegin_61 : decode cX3_nextBegin 61 = .ok (.iinc 3 1, 3) := by decide +kernel
theorem dX3_nextBegin_64 : decode cX3_nextBegin 64 = .ok (.goto (-60), 3) := by decide +kernel
theorem dX3_nextBegin_67 : decode cX3_nextBegin 67 = .ok (.iload_n 2, 1) := by decide +kernel
theorem dX3_nextBegin_68 : decode cX3_nextBegin 68 = .ok (.ireturn, 1) := by decide +kernel
theorem dX3_eventGoingOn_0 : decode cX3_eventGoingOn 0 = .ok (.iload_n 2, 1) := by decide +kernel
theorem dX3_eventGoingOn_1 : decode cX3_eventGoingOn 1 = .ok (.ifCond .lt 8, 3) := by decide +kernel
theorem dX3_eventGoingOn_4 : decode cX3_eventGoingOn 4 = .ok (.iload_n 2, 1) := by decide +kernel
theorem dX3_eventGoingOn_5 : decode cX3_eventGoingOn 5 = .ok (.iconst 4, 1) := by decide +kernel
theorem dX3_eventGoingOn_6 : decode cX3_eventGoingOn 6 = .ok (.if_icmp .lt 5, 3) := by decide +kernel
theorem dX3_eventGoingOn_9 : decode cX3_eventGoingOn 9 = .ok (.iconst (-1), 1) := by decide +kernel
theorem dX3_eventGoingOn_10 : decode cX3_eventGoingOn 10 = .ok (.ireturn, 1) := by decide +kernel
theorem dX3_eventGoingOn_11 : decode cX3_eventGoingOn 11 = .ok (.aload_n 1, 1) := by decide +kernel
theorem dX3_eventGoingOn_12 : decode cX3_eventGoingOn 12 = .ok (.aload_n 0, 1) := by decide +kernel
theorem dX3_eventGoingOn_13 : decode cX3_eventGoingOn 13 = .ok (.getfield 18, 3) := by decide +kernel
theorem dX3_eventGoingOn_16 : decode cX3_eventGoingOn 16 = .ok (.iload_n 2, 1) := by decide +kernel
theorem dX3_eventGoingOn_17 : decode cX3_eventGoingOn 17 = .ok (.iaload, 1) := by decide +kernel
theorem dX3_eventGoingOn_18 : decode cX3_eventGoingOn 18 = .ok (.invokevirtual 43, 3) := by decide +kernel
theorem dX3_eventGoingOn_21 : decode cX3_eventGoingOn 21 = .ok (.ifCond .eq 27, 3) := by decide +kernel
theorem dX3_eventGoingOn_24 : decode cX3_eventGoingOn 24 = .ok (.aload_n 1, 1) := by decide +kernel
theorem dX3_eventGoingOn_25 : decode cX3_eventGoingOn 25 = .ok (.aload_n 0, 1) := by decide +kernel
theorem dX3_eventGoingOn_26 : decode cX3_eventGoingOn 26 = .ok (.getfield 18, 3) := by decide +kernel
theorem dX3_eventGoingOn_29 : decode cX3_eventGoingOn 29 = .ok (.iload_n 2, 1) := by decide +kernel
theorem dX3_eventGoingOn_30 : decode cX3_eventGoingOn 30 = .ok (.iaload, 1) := by decide +kernel
theorem dX3_eventGoingOn_31 : decode cX3_eventGoingOn 31 = .ok (.invokevirtual 46, 3) := by decide +kernel
theorem dX3_eventGoingOn_34 : decode cX3_eventGoingOn 34 = .ok (.iload_n 3, 1) := by decide +kernel
theorem dX3_eventGoingOn_35 : decode cX3_eventGoingOn 35 = .ok (.if_icmp .ne 13, 3) := by decide +kernel
theorem dX3_eventGoingOn_38 : decode cX3_eventGoingOn 38 = .ok (.aload_n 0, 1) := by decide +kernel
theorem dX3_eventGoingOn_39 : decode cX3_eventGoingOn 39 = .ok (.getfield 18, 3) := by decide +kernel
theorem dX3_eventGoingOn_42 : decode cX3_eventGoingOn 42 = .ok (.iload_n 2, 1) := by decide +kernel
theorem dX3_eventGoingOn_43 : decode cX3_eventGoingOn 43 = .ok (.dup2, 1) := by decide +kernel
theorem dX3_eventGoingOn_44 : decode cX3_eventGoingOn 44 = .ok (.iaload, 1) := by decide +kernel
theorem dX3_eventGoingOn_45 : decode cX3_eventGoingOn 45 = .ok (.iconst 1, 1) := by decide +kernel
theorem dX3_eventGoingOn_46 : decode cX3_eventGoingOn 46 = .ok (.iadd, 1) := by decide +kernel
theorem dX3_eventGoingOn_47 : decode cX3_eventGoingOn 47 = .ok (.iastore, 1) := by decide +kernel
theorem dX3_eventGoingOn_48 : decode cX3_eventGoingOn 48 = .ok (.aload_n 0, 1) := by decide +kernel
theorem dX3_eventGoingOn_49 : decode cX3_eventGoingOn 49 = .ok (.getfield 18, 3) := by decide +kernel
theorem dX3_eventGoingOn_52 : decode cX3_eventGoingOn 52 = .ok (.iload_n 2, 1) := by decide +kernel
theorem dX3_eventGoingOn_53 : decode cX3_eventGoingOn 53 = .ok (.iaload, 1) := by decide +kernel
theorem dX3_eventGoingOn_54 : decode cX3_eventGoingOn 54 = .ok (.iconst 1, 1) := by decide +kernel
theorem dX3_eventGoingOn_55 : decode cX3_eventGoingOn 55 = .ok (.isub, 1) := by decide +kernel
theorem dX3_eventGoingOn_56 : decode cX3_eventGoingOn 56 = .ok (.istore 4, 2) := by decide +kernel
theorem dX3_eventGoingOn_58 : decode cX3_eventGoingOn 58 = .ok (.aload_n 1, 1) := by decide +kernel
theorem dX3_eventGoingOn_59 : decode cX3_eventGoingOn 59 = .ok (.iload 4, 2) := by decide +kernel
theorem dX3_eventGoingOn_61 : decode cX3_eventGoingOn 61 = .ok (.invokevirtual 43, 3) := by decide +kernel
theorem dX3_eventGoingOn_64 : decode cX3_eventGoingOn 64 = .ok (.ifCond .eq 18, 3) := by decide +kernel
theorem dX3_eventGoingOn_67 : decode cX3_eventGoingOn 67 = .ok (.aload_n 1, 1) := by decide +kernel
theorem dX3_eventGoingOn_68 : decode cX3_eventGoingOn 68 = .ok (.iload 4, 2) := by decide +kernel
theorem dX3_eventGoingOn_70 : decode cX3_eventGoingOn 70 = .ok (.invokevirtual 56, 3) := by decide +kernel
theorem dX3_eventGoingOn_73 : decode cX3_eventGoingOn 73 = .ok (.iload_n 3, 1) := by decide +kernel
theorem dX3_eventGoingOn_74 : decode cX3_eventGoingOn 74 = .ok (.if_icmp .le 8, 3) := by decide +kernel
theorem dX3_eventGoingOn_77 : decode cX3_eventGoingOn 77 = .ok (.iload 4, 2) := by decide +kernel
theorem dX3_eventGoingOn_79 : decode cX3_eventGoingOn 79 = .ok (.goto 4, 3) := by decide +kernel
theorem dX3_eventGoingOn_82 : decode cX3_eventGoingOn 82 = .ok (.iconst (-1), 1) := by decide +kernel
theorem dX3_eventGoingOn_83 : decode cX3_eventGoingOn 83 = .ok (.ireturn, 1) := by decide +kernel
theorem dX4_init_0 : decode cX4_init 0 = .ok (.aload_n 0, 1) := by decide +kernel
theorem dX4_init_1 : decode cX4_init 1 = .ok (.invokespecial 3, 3) := by decide +kernel
theorem dX4_init_4 : decode cX4_init 4 = .ok (.aload_n 0, 1) := by decide +kernel
theorem dX4_init_5 : decode cX4_init 5 = .ok (.bipush 24, 2) := by decide +kernel
theorem dX4_init_7 : decode cX4_init 7 = .ok (.newarray .int, 2) := by decide +kernel
theorem dX4_init_9 : decode cX4_init 9 = .ok (.putfield 9, 3) := by decide +kernel
theorem dX4_init_12 : decode cX4_init 12 = .ok (.aload_n 0, 1) := by decide +kernel
theorem dX4_init_13 : decode cX4_init 13 = .ok (.bipush 25, 2) := by decide +kernel
theorem dX4_init_15 : decode cX4_init 15 = .ok (.newarray .int, 2) := by decide +kernel
theorem dX4_init_17 : decode cX4_init 17 = .ok (.putfield 15, 3) := by decide +kernel
theorem dX4_init_20 : decode cX4_init 20 = .ok (.aload_n 0, 1) := by decide +kernel
theorem dX4_init_21 : decode cX4_init 21 = .ok (.bipush 24, 2) := by decide +kernel
theorem dX4_init_23 : decode cX4_init 23 = .ok (.newarray .int, 2) := by decide +kernel
theorem dX4_init_25 : decode cX4_init 25 = .ok (.putfield 18, 3) := by decide +kernel
theorem dX4_init_28 : decode cX4_init 28 = .ok (.aload_n 0, 1) := by decide +kernel
theorem dX4_init_29 : decode cX4_init 29 = .ok (.bipush 24, 2) := by decide +kernel
theorem dX4_init_31 : decode cX4_init 31 = .ok (.newarray .int, 2) := by decide +kernel
theorem dX4_init_33 : decode cX4_init 33 = .ok (.putfield 21, 3) := by decide +kernel
theorem dX4_init_36 : decode cX4_init 36 = .ok (.return_, 1) := by decide +kernel
theorem dX4_size_0 : decode cX4_size 0 = .ok (.aload_n 0, 1) := by decide +kernel
theorem dX4_size_1 : decode cX4_size 1 = .ok (.getfield 24, 3) := by decide +kernel
theorem dX4_size_4 : decode cX4_size 4 = .ok (.ireturn, 1) := by decide +kernel
theorem dX4_leastCost_0 : decode cX4_leastCost 0 = .ok (.aload_n 0, 1) := by decide +kernel
theorem dX4_leastCost_1 : decode cX4_leastCost 1 = .ok (.getfield 15, 3) := by decide +kernel
theorem dX4_leastCost_4 : decode cX4_leastCost 4 = .ok (.iconst 0, 1) := by decide +kernel
theorem dX4_leastCost_5 : decode cX4_leastCost 5 = .ok (.iaload, 1) := by decide +kernel
theorem dX4_leastCost_6 : decode cX4_leastCost 6 = .ok (.ireturn, 1) := by decide +kernel
theorem dX4_widthAt_0 : decode cX4_widthAt 0 = .ok (.iload_n 1, 1) := by decide +kernel
theorem dX4_widthAt_1 : decode cX4_widthAt 1 = .ok (.ifCond .lt 18, 3) := by decide +kernel
theorem dX4_widthAt_4 : decode cX4_widthAt 4 = .ok (.iload_n 1, 1) := by decide +kernel
theorem dX4_widthAt_5 : decode cX4_widthAt 5 = .ok (.bipush 24, 2) := by decide +kernel
theorem dX4_widthAt_7 : decode cX4_widthAt 7 = .ok (.if_icmp .ge 12, 3) := by decide +kernel
theorem dX4_widthAt_10 : decode cX4_widthAt 10 = .ok (.aload_n 0, 1) := by decide +kernel
theorem dX4_widthAt_11 : decode cX4_widthAt 11 = .ok (.getfield 9, 3) := by decide +kernel
theorem dX4_widthAt_14 : decode cX4_widthAt 14 = .ok (.iload_n 1, 1) := by decide +kernel
theorem dX4_widthAt_15 : decode cX4_widthAt 15 = .ok (.iaload, 1) := by decide +kernel
theorem dX4_widthAt_16 : decode cX4_widthAt 16 = .ok (.goto 4, 3) := by decide +kernel
theorem dX4_widthAt_19 : decode cX4_widthAt 19 = .ok (.iconst 0, 1) := by decide +kernel
theorem dX4_widthAt_20 : decode cX4_widthAt 20 = .ok (.ireturn, 1) := by decide +kernel
theorem dX4_lineAt_0 : decode cX4_lineAt 0 = .ok (.iload_n 1, 1) := by decide +kernel
theorem dX4_lineAt_1 : decode cX4_lineAt 1 = .ok (.ifCond .lt 18, 3) := by decide +kernel
theorem dX4_lineAt_4 : decode cX4_lineAt 4 = .ok (.iload_n 1, 1) := by decide +kernel
theorem dX4_lineAt_5 : decode cX4_lineAt 5 = .ok (.bipush 24, 2) := by decide +kernel
theorem dX4_lineAt_7 : decode cX4_lineAt 7 = .ok (.if_icmp .ge 12, 3) := by decide +kernel
theorem dX4_lineAt_10 : decode cX4_lineAt 10 = .ok (.aload_n 0, 1) := by decide +kernel
theorem dX4_lineAt_11 : decode cX4_lineAt 11 = .ok (.getfield 21, 3) := by decide +kernel
theorem dX4_lineAt_14 : decode cX4_lineAt 14 = .ok (.iload_n 1, 1) := by decide +kernel
theorem dX4_lineAt_15 : decode cX4_lineAt 15 = .ok (.iaload, 1) := by decide +kernel
theorem dX4_lineAt_16 : decode cX4_lineAt 16 = .ok (.goto 4, 3) := by decide +kernel
theorem dX4_lineAt_19 : decode cX4_lineAt 19 = .ok (.iconst (-1), 1) := by decide +kernel
theorem dX4_lineAt_20 : decode cX4_lineAt 20 = .ok (.ireturn, 1) := by decide +kernel
theorem dX4_measureWidths_0 : decode cX4_measureWidths 0 = .ok (.iconst 0, 1) := by decide +kernel
theorem dX4_measureWidths_1 : decode cX4_measureWidths 1 = .ok (.istore_n 3, 1) := by decide +kernel
theorem dX4_measureWidths_2 : decode cX4_measureWidths 2 = .ok (.iconst 0, 1) := by decide +kernel
theorem dX4_measureWidths_3 : decode cX4_measureWidths 3 = .ok (.istore 4, 2) := by decide +kernel
theorem dX4_measureWidths_5 : decode cX4_measureWidths 5 = .ok (.iload 4, 2) := by decide +kernel
theorem dX4_measureWidths_7 : decode cX4_measureWidths 7 = .ok (.bipush 24, 2) := by decide +kernel
theorem dX4_measureWidths_9 : decode cX4_measureWidths 9 = .ok (.if_icmp .ge 118, 3) := by decide +kernel
theorem dX4_measureWidths_12 : decode cX4_measureWidths 12 = .ok (.aload_n 1, 1) := by decide +kernel
theorem dX4_measureWidths_13 : decode cX4_measureWidths 13 = .ok (.iload 4, 2) := by decide +kernel
theorem dX4_measureWidths_15 : decode cX4_measureWidths 15 = .ok (.invokevirtual 28, 3) := by decide +kernel
theorem dX4_measureWidths_18 : decode cX4_measureWidths 18 = .ok (.istore 5, 2) := by decide +kernel
theorem dX4_measureWidths_20 : decode cX4_measureWidths 20 = .ok (.iload 5, 2) := by decide +kernel
theorem dX4_measureWidths_22 : decode cX4_measureWidths 22 = .ok (.aload_n 1, 1) := by decide +kernel
theorem dX4_measureWidths_23 : decode cX4_measureWidths 23 = .ok (.iload 4, 2) := by decide +kernel
theorem dX4_measureWidths_25 : decode cX4_measureWidths 25 = .ok (.invokevirtual 34, 3) := by decide +kernel
theorem dX4_measureWidths_28 : decode cX4_measureWidths 28 = .ok (.iadd, 1) := by decide +kernel
theorem dX4_measureWidths_29 : decode cX4_measureWidths 29 = .ok (.istore 6, 2) := by decide +kernel
theorem dX4_measureWidths_31 : decode cX4_measureWidths 31 = .ok (.iconst 3, 1) := by decide +kernel
theorem dX4_measureWidths_32 : decode cX4_measureWidths 32 = .ok (.aload_n 1, 1) := by decide +kernel
theorem dX4_measureWidths_33 : decode cX4_measureWidths 33 = .ok (.iload 4, 2) := by decide +kernel
theorem dX4_measureWidths_35 : decode cX4_measureWidths 35 = .ok (.invokevirtual 37, 3) := by decide +kernel
theorem dX4_measureWidths_38 : decode cX4_measureWidths 38 = .ok (.invokestatic 40, 3) := by decide +kernel
theorem dX4_measureWidths_41 : decode cX4_measureWidths 41 = .ok (.iconst 3, 1) := by decide +kernel
theorem dX4_measureWidths_42 : decode cX4_measureWidths 42 = .ok (.iadd, 1) := by decide +kernel
theorem dX4_measureWidths_43 : decode cX4_measureWidths 43 = .ok (.iconst 4, 1) := by decide +kernel
theorem dX4_measureWidths_44 : decode cX4_measureWidths 44 = .ok (.idiv, 1) := by decide +kernel
theorem dX4_measureWidths_45 : decode cX4_measureWidths 45 = .ok (.iadd, 1) := by decide +kernel
theorem dX4_measureWidths_46 : decode cX4_measureWidths 46 = .ok (.istore 7, 2) := by decide +kernel
theorem dX4_measureWidths_48 : decode cX4_measureWidths 48 = .ok (.iload_n 3, 1) := by decide +kernel
theorem dX4_measureWidths_49 : decode cX4_measureWidths 49 = .ok (.aload_n 2, 1) := by decide +kernel
theorem dX4_measureWidths_50 : decode cX4_measureWidths 50 = .ok (.invokevirtual 45, 3) := by decide +kernel
theorem dX4_measureWidths_53 : decode cX4_measureWidths 53 = .ok (.if_icmp .ge 50, 3) := by decide +kernel
theorem dX4_measureWidths_56 : decode cX4_measureWidths 56 = .ok (.aload_n 2, 1) := by decide +kernel
theorem dX4_measureWidths_57 : decode cX4_measureWidths 57 = .ok (.iload_n 3, 1) := by decide +kernel
theorem dX4_measureWidths_58 : decode cX4_measureWidths 58 = .ok (.invokevirtual 51, 3) := by decide +kernel
theorem dX4_measureWidths_61 : decode cX4_measureWidths 61 = .ok (.iload 6, 2) := by decide +kernel
theorem dX4_measureWidths_63 : decode cX4_measureWidths 63 = .ok (.if_icmp .ge 40, 3) := by decide +kernel
theorem dX4_measureWidths_66 : decode cX4_measureWidths 66 = .ok (.aload_n 2, 1) := by decide +kernel
theorem dX4_measureWidths_67 : decode cX4_measureWidths 67 = .ok (.iload_n 3, 1) := by decide +kernel
theorem dX4_measureWidths_68 : decode cX4_measureWidths 68 = .ok (.invokevirtual 51, 3) := by decide +kernel
theorem dX4_measureWidths_71 : decode cX4_measureWidths 71 = .ok (.istore 8, 2) := by decide +kernel
theorem dX4_measureWidths_73 : decode cX4_measureWidths 73 = .ok (.iload 8, 2) := by decide +kernel
theorem dX4_measureWidths_75 : decode cX4_measureWidths 75 = .ok (.iload 5, 2) := by decide +kernel
theorem dX4_measureWidths_77 : decode cX4_measureWidths 77 = .ok (.if_icmp .le 20, 3) := by decide +kernel
theorem dX4_measureWidths_80 : decode cX4_measureWidths 80 = .ok (.iload 7, 2) := by decide +kernel
theorem dX4_measureWidths_82 : decode cX4_measureWidths 82 = .ok (.iload 8, 2) := by decide +kernel
theorem dX4_measureWidths_84 : decode cX4_measureWidths 84 = .ok (.iload 5, 2) := by decide +kernel
theorem dX4_measureWidths_86 : decode cX4_measureWidths 86 = .ok (.isub, 1) := by decide +kernel
theorem dX4_measureWidths_87 : decode cX4_measureWidths 87 = .ok (.invokestatic 54, 3) := by decide +kernel
theorem dX4_measureWidths_90 : decode cX4_measureWidths 90 = .ok (.iadd, 1) := by decide +kernel
theorem dX4_measureWidths_91 : decode cX4_measureWidths 91 = .ok (.istore 7, 2) := by decide +kernel
theorem dX4_measureWidths_93 : decode cX4_measureWidths 93 = .ok (.iload 8, 2) := by decide +kernel
theorem dX4_measureWidths_95 : decode cX4_measureWidths 95 = .ok (.istore 5, 2) := by decide +kernel
theorem dX4_measureWidths_97 : decode cX4_measureWidths 97 = .ok (.iinc 3 1, 3) := by decide +kernel
theorem dX4_measureWidths_100 : decode cX4_measureWidths 100 = .ok (.goto (-52), 3) := by decide +kernel
theorem dX4_measureWidths_103 : decode cX4_measureWidths 103 = .ok (.aload_n 0, 1) := by decide +kernel
theorem dX4_measureWidths_104 : decode cX4_measureWidths 104 = .ok (.getfield 9, 3) := by decide +kernel
theorem dX4_measureWidths_107 : decode cX4_measureWidths 107 = .ok (.iload 4, 2) := by decide +kernel
theorem dX4_measureWidths_109 : decode cX4_measureWidths 109 = .ok (.iload 7, 2) := by decide +kernel
theorem dX4_measureWidths_111 : decode cX4_measureWidths 111 = .ok (.iload 6, 2) := by decide +kernel
theorem dX4_measureWidths_113 : decode cX4_measureWidths 113 = .ok (.iload 5, 2) := by decide +kernel
theorem dX4_measureWidths_115 : decode cX4_measureWidths 115 = .ok (.isub, 1) := by decide +kernel
theorem dX4_measureWidths_116 : decode cX4_measureWidths 116 = .ok (.invokestatic 54, 3) := by decide +kernel
theorem dX4_measureWidths_119 : decode cX4_measureWidths 119 = .ok (.iadd, 1) := by decide +kernel
theorem dX4_measureWidths_120 : decode cX4_measureWidths 120 = .ok (.iastore, 1) := by decide +kernel
theorem dX4_measureWidths_121 : decode cX4_measureWidths 121 = .ok (.iinc 4 1, 3) := by decide +kernel
theorem dX4_measureWidths_124 : decode cX4_measureWidths 124 = .ok (.goto (-119), 3) := by decide +kernel
theorem dX4_measureWidths_127 : decode cX4_measureWidths 127 = .ok (.return_, 1) := by decide +kernel
theorem dX4_widthOfGap_0 : decode cX4_widthOfGap 0 = .ok (.iconst 0, 1) := by decide +kernel
theorem dX4_widthOfGap_1 : decode cX4_widthOfGap 1 = .ok (.istore_n 1, 1) := by decide +kernel
theorem dX4_widthOfGap_2 : decode cX4_widthOfGap 2 = .ok (.iconst 1, 1) := by decide +kernel
theorem dX4_widthOfGap_3 : decode cX4_widthOfGap 3 = .ok (.istore_n 2, 1) := by decide +kernel
theorem dX4_widthOfGap_4 : decode cX4_widthOfGap 4 = .ok (.iload_n 2, 1) := by decide +kernel
theorem dX4_widthOfGap_5 : decode cX4_widthOfGap 5 = .ok (.bipush 31, 2) := by decide +kernel
theorem dX4_widthOfGap_7 : decode cX4_widthOfGap 7 = .ok (.if_icmp .ge 17, 3) := by decide +kernel
theorem dX4_widthOfGap_10 : decode cX4_widthOfGap 10 = .ok (.iload_n 0, 1) := by decide +kernel
theorem dX4_widthOfGap_11 : decode cX4_widthOfGap 11 = .ok (.iload_n 2, 1) := by decide +kernel
theorem dX4_widthOfGap_12 : decode cX4_widthOfGap 12 = .ok (.ishr, 1) := by decide +kernel
theorem dX4_widthOfGap_13 : decode cX4_widthOfGap 13 = .ok (.ifCond .le 11, 3) := by decide +kernel
theorem dX4_widthOfGap_16 : decode cX4_widthOfGap 16 = .ok (.iload_n 2, 1) := by decide +kernel
theorem dX4_widthOfGap_17 : decode cX4_widthOfGap 17 = .ok (.istore_n 1, 1) := by decide +kernel
theorem dX4_widthOfGap_18 : decode cX4_widthOfGap 18 = .ok (.iinc 2 1, 3) := by decide +kernel
theorem dX4_widthOfGap_21 : decode cX4_widthOfGap 21 = .ok (.goto (-17), 3) := by decide +kernel
theorem dX4_widthOfGap_24 : decode cX4_widthOfGap 24 = .ok (.iconst 2, 1) := by decide +kernel
theorem dX4_widthOfGap_25 : decode cX4_widthOfGap 25 = .ok (.iload_n 1, 1) := by decide +kernel
theorem dX4_widthOfGap_26 : decode cX4_widthOfGap 26 = .ok (.iadd, 1) := by decide +kernel
theorem dX4_widthOfGap_27 : decode cX4_widthOfGap 27 = .ok (.ireturn, 1) := by decide +kernel
theorem dX4_breakUp_0 : decode cX4_breakUp 0 = .ok (.iconst 0, 1) := by decide +kernel
theorem dX4_breakUp_1 : decode cX4_breakUp 1 = .ok (.iload_n 1, 1) := by decide +kernel
theorem dX4_breakUp_2 : decode cX4_breakUp 2 = .ok (.bipush 24, 2) := by decide +kernel
theorem dX4_breakUp_4 : decode cX4_breakUp 4 = .ok (.invokestatic 57, 3) := by decide +kernel
theorem dX4_breakUp_7 : decode cX4_breakUp 7 = .ok (.invokestatic 61, 3) := by decide +kernel
theorem dX4_breakUp_10 : decode cX4_breakUp 10 = .ok (.istore_n 3, 1) := by decide +kernel
theorem dX4_breakUp_11 : decode cX4_breakUp 11 = .ok (.aload_n 0, 1) := by decide +kernel
theorem dX4_breakUp_12 : decode cX4_breakUp 12 = .ok (.getfield 15, 3) := by decide +kernel
theorem dX4_breakUp_15 : decode cX4_breakUp 15 = .ok (.iload_n 3, 1) := by decide +kernel
theorem dX4_breakUp_16 : decode cX4_breakUp 16 = .ok (.iconst 0, 1) := by decide +kernel
theorem dX4_breakUp_17 : decode cX4_breakUp 17 = .ok (.iastore, 1) := by decide +kernel
theorem dX4_breakUp_18 : decode cX4_breakUp 18 = .ok (.iload_n 3, 1) := by decide +kernel
theorem dX4_breakUp_19 : decode cX4_breakUp 19 = .ok (.iconst 1, 1) := by decide +kernel
theorem dX4_breakUp_20 : decode cX4_breakUp 20 = .ok (.isub, 1) := by decide +kernel
theorem dX4_breakUp_21 : decode cX4_breakUp 21 = .ok (.istore 4, 2) := by decide +kernel
theorem dX4_breakUp_23 : decode cX4_breakUp 23 = .ok (.iload 4, 2) := by decide +kernel
theorem dX4_breakUp_25 : decode cX4_breakUp 25 = .ok (.ifCond .lt 17, 3) := by decide +kernel
theorem dX4_breakUp_28 : decode cX4_breakUp 28 = .ok (.aload_n 0, 1) := by decide +kernel
theorem dX4_breakUp_29 : decode cX4_breakUp 29 = .ok (.iload 4, 2) := by decide +kernel
theorem dX4_breakUp_31 : decode cX4_breakUp 31 = .ok (.iload_n 3, 1) := by decide +kernel
theorem dX4_breakUp_32 : decode cX4_breakUp 32 = .ok (.iload_n 2, 1) := by decide +kernel
theorem dX4_breakUp_33 : decode cX4_breakUp 33 = .ok (.invokevirtual 64, 3) := by decide +kernel
theorem dX4_breakUp_36 : decode cX4_breakUp 36 = .ok (.iinc 4 (-1), 3) := by decide +kernel
theorem dX4_breakUp_39 : decode cX4_breakUp 39 = .ok (.goto (-16), 3) := by decide +kernel
theorem dX4_breakUp_42 : decode cX4_breakUp 42 = .ok (.aload_n 0, 1) := by decide +kernel
theorem dX4_breakUp_43 : decode cX4_breakUp 43 = .ok (.iload_n 3, 1) := by decide +kernel
theorem dX4_breakUp_44 : decode cX4_breakUp 44 = .ok (.invokevirtual 68, 3) := by decide +kernel
theorem dX4_breakUp_47 : decode cX4_breakUp 47 = .ok (.return_, 1) := by decide +kernel
theorem dX4_chooseLine_0 : decode cX4_chooseLine 0 = .ok (.iload_n 1, 1) := by decide +kernel
theorem dX4_chooseLine_1 : decode cX4_chooseLine 1 = .ok (.ifCond .lt 9, 3) := by decide +kernel
theorem dX4_chooseLine_4 : decode cX4_chooseLine 4 = .ok (.iload_n 1, 1) := by decide +kernel
theorem dX4_chooseLine_5 : decode cX4_chooseLine 5 = .ok (.bipush 24, 2) := by decide +kernel
theorem dX4_chooseLine_7 : decode cX4_chooseLine 7 = .ok (.if_icmp .lt 4, 3) := by decide +kernel
theorem dX4_chooseLine_10 : decode cX4_chooseLine 10 = .ok (.return_, 1) := by decide +kernel
theorem dX4_chooseLine_11 : decode cX4_chooseLine 11 = .ok (.iconst 0, 1) := by decide +kernel
theorem dX4_chooseLine_12 : decode cX4_chooseLine 12 = .ok (.istore 4, 2) := by decide +kernel
theorem dX4_chooseLine_14 : decode cX4_chooseLine 14 = .ok (.iconst (-1), 1) := by decide +kernel
theorem dX4_chooseLine_15 : decode cX4_chooseLine 15 = .ok (.istore 5, 2) := by decide +kernel
theorem dX4_chooseLine_17 : decode cX4_chooseLine 17 = .ok (.iload_n 1, 1) := by decide +kernel
theorem dX4_chooseLine_18 : decode cX4_chooseLine 18 = .ok (.iconst 1, 1) := by decide +kernel
theorem dX4_chooseLine_19 : decode cX4_chooseLine 19 = .ok (.iadd, 1) := by decide +kernel
theorem dX4_chooseLine_20 : decode cX4_chooseLine 20 = .ok (.istore 6, 2) := by decide +kernel
theorem dX4_chooseLine_22 : decode cX4_chooseLine 22 = .ok (.iload 6, 2) := by decide +kernel
theorem dX4_chooseLine_24 : decode cX4_chooseLine 24 = .ok (.iload_n 2, 1) := by decide +kernel
theorem dX4_chooseLine_25 : decode cX4_chooseLine 25 = .ok (.if_icmp .gt 91, 3) := by decide +kernel
theorem dX4_chooseLine_28 : decode cX4_chooseLine 28 = .ok (.iload 6, 2) := by decide +kernel
theorem dX4_chooseLine_30 : decode cX4_chooseLine 30 = .ok (.bipush 24, 2) := by decide +kernel
theorem dX4_chooseLine_32 : decode cX4_chooseLine 32 = .ok (.if_icmp .gt 84, 3) := by decide +kernel
theorem dX4_chooseLine_35 : decode cX4_chooseLine 35 = .ok (.iload 4, 2) := by decide +kernel
theorem dX4_chooseLine_37 : decode cX4_chooseLine 37 = .ok (.aload_n 0, 1) := by decide +kernel
theorem dX4_chooseLine_38 : decode cX4_chooseLine 38 = .ok (.getfield 9, 3) := by decide +kernel
theorem dX4_chooseLine_41 : decode cX4_chooseLine 41 = .ok (.iload 6, 2) := by decide +kernel
theorem dX4_chooseLine_43 : decode cX4_chooseLine 43 = .ok (.iconst 1, 1) := by decide +kernel
theorem dX4_chooseLine_44 : decode cX4_chooseLine 44 = .ok (.isub, 1) := by decide +kernel
theorem dX4_chooseLine_45 : decode cX4_chooseLine 45 = .ok (.iaload, 1) := by decide +kernel
theorem dX4_chooseLine_46 : decode cX4_chooseLine 46 = .ok (.iadd, 1) := by decide +kernel
theorem dX4_chooseLine_47 : decode cX4_chooseLine 47 = .ok (.istore 4, 2) := by decide +kernel
theorem dX4_chooseLine_49 : decode cX4_chooseLine 49 = .ok (.iload_n 3, 1) := by decide +kernel
theorem dX4_chooseLine_50 : decode cX4_chooseLine 50 = .ok (.iload 4, 2) := by decide +kernel
theorem dX4_chooseLine_52 : decode cX4_chooseLine 52 = .ok (.isub, 1) := by decide +kernel
theorem dX4_chooseLine_53 : decode cX4_chooseLine 53 = .ok (.istore 7, 2) := by decide +kernel
theorem dX4_chooseLine_55 : decode cX4_chooseLine 55 = .ok (.iload 6, 2) := by decide +kernel
theorem dX4_chooseLine_57 : decode cX4_chooseLine 57 = .ok (.iload_n 2, 1) := by decide +kernel
theorem dX4_chooseLine_58 : decode cX4_chooseLine 58 = .ok (.if_icmp .ne 12, 3) := by decide +kernel
theorem dX4_chooseLine_61 : decode cX4_chooseLine 61 = .ok (.iload 7, 2) := by decide +kernel
theorem dX4_chooseLine_63 : decode cX4_chooseLine 63 = .ok (.ifCond .lt 7, 3) := by decide +kernel
theorem dX4_chooseLine_66 : decode cX4_chooseLine 66 = .ok (.iconst 0, 1) := by decide +kernel
theorem dX4_chooseLine_67 : decode cX4_chooseLine 67 = .ok (.goto 8, 3) := by decide +kernel
theorem dX4_chooseLine_70 : decode cX4_chooseLine 70 = .ok (.iload 7, 2) := by decide +kernel
theorem dX4_chooseLine_72 : decode cX4_chooseLine 72 = .ok (.iload 7, 2) := by decide +kernel
theorem dX4_chooseLine_74 : decode cX4_chooseLine 74 = .ok (.imul, 1) := by decide +kernel
theorem dX4_chooseLine_75 : decode cX4_chooseLine 75 = .ok (.aload_n 0, 1) := by decide +kernel
theorem dX4_chooseLine_76 : decode cX4_chooseLine 76 = .ok (.getfield 15, 3) := by decide +kernel
theorem dX4_chooseLine_79 : decode cX4_chooseLine 79 = .ok (.iload 6, 2) := by decide +kernel
theorem dX4_chooseLine_81 : decode cX4_chooseLine 81 = .ok (.iaload, 1) := by decide +kernel
theorem dX4_chooseLine_82 : decode cX4_chooseLine 82 = .ok (.iadd, 1) := by decide +kernel
theorem dX4_chooseLine_83 : decode cX4_chooseLine 83 = .ok (.istore 8, 2) := by decide +kernel
theorem dX4_chooseLine_85 : decode cX4_chooseLine 85 = .ok (.iload 5, 2) := by decide +kernel
theorem dX4_chooseLine_87 : decode cX4_chooseLine 87 = .ok (.iconst (-1), 1) := by decide +kernel
theorem dX4_chooseLine_88 : decode cX4_chooseLine 88 = .ok (.if_icmp .eq 10, 3) := by decide +kernel
theorem dX4_chooseLine_91 : decode cX4_chooseLine 91 = .ok (.iload 8, 2) := by decide +kernel
theorem dX4_chooseLine_93 : decode cX4_chooseLine 93 = .ok (.iload 5, 2) := by decide +kernel
theorem dX4_chooseLine_95 : decode cX4_chooseLine 95 = .ok (.if_icmp .gt 15, 3) := by decide +kernel
theorem dX4_chooseLine_98 : decode cX4_chooseLine 98 = .ok (.iload 8, 2) := by decide +kernel
theorem dX4_chooseLine_100 : decode cX4_chooseLine 100 = .ok (.istore 5, 2) := by decide +kernel
theorem dX4_chooseLine_102 : decode cX4_chooseLine 102 = .ok (.aload_n 0, 1) := by decide +kernel
theorem dX4_chooseLine_103 : decode cX4_chooseLine 103 = .ok (.getfield 18, 3) := by decide +kernel
theorem dX4_chooseLine_106 : decode cX4_chooseLine 106 = .ok (.iload_n 1, 1) := by decide +kernel
theorem dX4_chooseLine_107 : decode cX4_chooseLine 107 = .ok (.iload 6, 2) := by decide +kernel
theorem dX4_chooseLine_109 : decode cX4_chooseLine 109 = .ok (.iastore, 1) := by decide +kernel
theorem dX4_chooseLine_110 : decode cX4_chooseLine 110 = .ok (.iinc 6 1, 3) := by decide +kernel
theorem dX4_chooseLine_113 : decode cX4_chooseLine 113 = .ok (.goto (-91), 3) := by decide +kernel
theorem dX4_chooseLine_116 : decode cX4_chooseLine 116 = .ok (.aload_n 0, 1) := by decide +kernel
theorem dX4_chooseLine_117 : decode cX4_chooseLine 117 = .ok (.getfield 15, 3) := by decide +kernel
theorem dX4_chooseLine_120 : decode cX4_chooseLine 120 = .ok (.iload_n 1, 1) := by decide +kernel
theorem dX4_chooseLine_121 : decode cX4_chooseLine 121 = .ok (.iload 5, 2) := by decide +kernel
theorem dX4_chooseLine_123 : decode cX4_chooseLine 123 = .ok (.iastore, 1) := by decide +kernel
theorem dX4_chooseLine_124 : decode cX4_chooseLine 124 = .ok (.return_, 1) := by decide +kernel
theorem dX4_numberLines_0 : decode cX4_numberLines 0 = .ok (.aload_n 0, 1) := by decide +kernel
theorem dX4_numberLines_1 : decode cX4_numberLines 1 = .ok (.iconst 0, 1) := by decide +kernel
theorem dX4_numberLines_2 : decode cX4_numberLines 2 = .ok (.putfield 24, 3) := by decide +kernel
theorem dX4_numberLines_5 : decode cX4_numberLines 5 = .ok (.iconst 0, 1) := by decide +kernel
theorem dX4_numberLines_6 : decode cX4_numberLines 6 = .ok (.istore_n 2, 1) := by decide +kernel
theorem dX4_numberLines_7 : decode cX4_numberLines 7 = .ok (.iconst 0, 1) := by decide +kernel
theorem dX4_numberLines_8 : decode cX4_numberLines 8 = .ok (.istore_n 3, 1) := by decide +kernel
theorem dX4_numberLines_9 : decode cX4_numberLines 9 = .ok (.iload_n 3, 1) := by decide +kernel
theorem dX4_numberLines_10 : decode cX4_numberLines 10 = .ok (.bipush 24, 2) := by decide +kernel
theorem dX4_numberLines_12 : decode cX4_numberLines 12 = .ok (.if_icmp .ge 58, 3) := by decide +kernel
theorem dX4_numberLines_15 : decode cX4_numberLines 15 = .ok (.iload_n 3, 1) := by decide +kernel
theorem dX4_numberLines_16 : decode cX4_numberLines 16 = .ok (.iload_n 1, 1) := by decide +kernel
theorem dX4_numberLines_17 : decode cX4_numberLines 17 = .ok (.if_icmp .lt 13, 3) := by decide +kernel
theorem dX4_numberLines_20 : decode cX4_numberLines 20 = .ok (.aload_n 0, 1) := by decide +kernel
theorem dX4_numberLines_21 : decode cX4_numberLines 21 = .ok (.getfield 21, 3) := by decide +kernel
theorem dX4_numberLines_24 : decode cX4_numberLines 24 = .ok (.iload_n 3, 1) := by decide +kernel
theorem dX4_numberLines_25 : decode cX4_numberLines 25 = .ok (.iconst (-1), 1) := by decide +kernel
theorem dX4_numberLines_26 : decode cX4_numberLines 26 = .ok (.iastore, 1) := by decide +kernel
theorem dX4_numberLines_27 : decode cX4_numberLines 27 = .ok (.goto 37, 3) := by decide +kernel
theorem dX4_numberLines_30 : decode cX4_numberLines 30 = .ok (.iload_n 3, 1) := by decide +kernel
theorem dX4_numberLines_31 : decode cX4_numberLines 31 = .ok (.iload_n 2, 1) := by decide +kernel
theorem dX4_numberLines_32 : decode cX4_numberLines 32 = .ok (.if_icmp .ne 20, 3) := by decide +kernel
theorem dX4_numberLines_35 : decode cX4_numberLines 35 = .ok (.aload_n 0, 1) := by decide +kernel
theorem dX4_numberLines_36 : decode cX4_numberLines 36 = .ok (.dup, 1) := by decide +kernel
theorem dX4_numberLines_37 : decode cX4_numberLines 37 = .ok (.getfield 24, 3) := by decide +kernel
theorem dX4_numberLines_40 : decode cX4_numberLines 40 = .ok (.iconst 1, 1) := by decide +kernel
theorem dX4_numberLines_41 : decode cX4_numberLines 41 = .ok (.iadd, 1) := by decide +kernel
theorem dX4_numberLines_42 : decode cX4_numberLines 42 = .ok (.putfield 24, 3) := by decide +kernel
theorem dX4_numberLines_45 : decode cX4_numberLines 45 = .ok (.aload_n 0, 1) := by decide +kernel
theorem dX4_numberLines_46 : decode cX4_numberLines 46 = .ok (.getfield 18, 3) := by decide +kernel
theorem dX4_numberLines_49 : decode cX4_numberLines 49 = .ok (.iload_n 3, 1) := by decide +kernel
theorem dX4_numberLines_50 : decode cX4_numberLines 50 = .ok (.iaload, 1) := by decide +kernel
theorem dX4_numberLines_51 : decode cX4_numberLines 51 = .ok (.istore_n 2, 1) := by decide +kernel
theorem dX4_numberLines_52 : decode cX4_numberLines 52 = .ok (.aload_n 0, 1) := by decide +kernel
theorem dX4_numberLines_53 : decode cX4_numberLines 53 = .ok (.getfield 21, 3) := by decide +kernel
theorem dX4_numberLines_56 : decode cX4_numberLines 56 = .ok (.iload_n 3, 1) := by decide +kernel
theorem dX4_numberLines_57 : decode cX4_numberLines 57 = .ok (.aload_n 0, 1) := by decide +kernel
theorem dX4_numberLines_58 : decode cX4_numberLines 58 = .ok (.getfield 24, 3) := by decide +kernel
theorem dX4_numberLines_61 : decode cX4_numberLines 61 = .ok (.iconst 1, 1) := by decide +kernel
theorem dX4_numberLines_62 : decode cX4_numberLines 62 = .ok (.isub, 1) := by decide +kernel
theorem dX4_numberLines_63 : decode cX4_numberLines 63 = .ok (.iastore, 1) := by decide +kernel
theorem dX4_numberLines_64 : decode cX4_numberLines 64 = .ok (.iinc 3 1, 3) := by decide +kernel
theorem dX4_numberLines_67 : decode cX4_numberLines 67 = .ok (.goto (-58), 3) := by decide +kernel
theorem dX4_numberLines_70 : decode cX4_numberLines 70 = .ok (.return_, 1) := by decide +kernel
theorem dX5_init_0 : decode cX5_init 0 = .ok (.aload_n 0, 1) := by decide +kernel
theorem dX5_init_1 : decode cX5_init 1 = .ok (.invokespecial 3, 3) := by decide +kernel
theorem dX5_init_4 : decode cX5_init 4 = .ok (.aload_n 0, 1) := by decide +kernel
theorem dX5_init_5 : decode cX5_init 5 = .ok (.sipush 128, 3) := by decide +kernel
theorem dX5_init_8 : decode cX5_init 8 = .ok (.newarray .int, 2) := by decide +kernel
theorem dX5_init_10 : decode cX5_init 10 = .ok (.putfield 9, 3) := by decide +kernel
theorem dX5_init_13 : decode cX5_init 13 = .ok (.aload_n 0, 1) := by decide +kernel
theorem dX5_init_14 : decode cX5_init 14 = .ok (.sipush 128, 3) := by decide +kernel
theorem dX5_init_17 : decode cX5_init 17 = .ok (.newarray .int, 2) := by decide +kernel
theorem dX5_init_19 : decode cX5_init 19 = .ok (.putfield 15, 3) := by decide +kernel
theorem dX5_init_22 : decode cX5_init 22 = .ok (.aload_n 0, 1) := by decide +kernel
theorem dX5_init_23 : decode cX5_init 23 = .ok (.sipush 128, 3) := by decide +kernel
theorem dX5_init_26 : decode cX5_init 26 = .ok (.newarray .int, 2) := by decide +kernel
theorem dX5_init_28 : decode cX5_init 28 = .ok (.putfield 18, 3) := by decide +kernel
theorem dX5_init_31 : decode cX5_init 31 = .ok (.aload_n 0, 1) := by decide +kernel
theorem dX5_init_32 : decode cX5_init 32 = .ok (.sipush 128, 3) := by decide +kernel
theorem dX5_init_35 : decode cX5_init 35 = .ok (.newarray .boolean, 2) := by decide +kernel
theorem dX5_init_37 : decode cX5_init 37 = .ok (.putfield 21, 3) := by decide +kernel
theorem dX5_init_40 : decode cX5_init 40 = .ok (.aload_n 0, 1) := by decide +kernel
theorem dX5_init_41 : decode cX5_init 41 = .ok (.sipush 128, 3) := by decide +kernel
theorem dX5_init_44 : decode cX5_init 44 = .ok (.newarray .boolean, 2) := by decide +kernel
theorem dX5_init_46 : decode cX5_init 46 = .ok (.putfield 25, 3) := by decide +kernel
theorem dX5_init_49 : decode cX5_init 49 = .ok (.aload_n 0, 1) := by decide +kernel
theorem dX5_init_50 : decode cX5_init 50 = .ok (.sipush 128, 3) := by decide +kernel
theorem dX5_init_53 : decode cX5_init 53 = .ok (.newarray .int, 2) := by decide +kernel
theorem dX5_init_55 : decode cX5_init 55 = .ok (.putfield 28, 3) := by decide +kernel
theorem dX5_init_58 : decode cX5_init 58 = .ok (.aload_n 0, 1) := by decide +kernel
theorem dX5_init_59 : decode cX5_init 59 = .ok (.sipush 128, 3) := by decide +kernel
theorem dX5_init_62 : decode cX5_init 62 = .ok (.newarray .int, 2) := by decide +kernel
theorem dX5_init_64 : decode cX5_init 64 = .ok (.putfield 31, 3) := by decide +kernel
theorem dX5_init_67 : decode cX5_init 67 = .ok (.aload_n 0, 1) := by decide +kernel
theorem dX5_init_68 : decode cX5_init 68 = .ok (.sipush 128, 3) := by decide +kernel
theorem dX5_init_71 : decode cX5_init 71 = .ok (.newarray .int, 2) := by decide +kernel
theorem dX5_init_73 : decode cX5_init 73 = .ok (.putfield 34, 3) := by decide +kernel
theorem dX5_init_76 : decode cX5_init 76 = .ok (.aload_n 0, 1) := by decide +kernel
theorem dX5_init_77 : decode cX5_init 77 = .ok (.bipush 63, 2) := by decide +kernel
theorem dX5_init_79 : decode cX5_init 79 = .ok (.newarray .int, 2) := by decide +kernel
theorem dX5_init_81 : decode cX5_init 81 = .ok (.putfield 37, 3) := by decide +kernel
theorem dX5_init_84 : decode cX5_init 84 = .ok (.return_, 1) := by decide +kernel
theorem dX5_size_0 : decode cX5_size 0 = .ok (.aload_n 0, 1) := by decide +kernel
theorem dX5_size_1 : decode cX5_size 1 = .ok (.getfield 40, 3) := by decide +kernel
theorem dX5_size_4 : decode cX5_size 4 = .ok (.ireturn, 1) := by decide +kernel
theorem dX5_beamTotal_0 : decode cX5_beamTotal 0 = .ok (.aload_n 0, 1) := by decide +kernel
theorem dX5_beamTotal_1 : decode cX5_beamTotal 1 = .ok (.getfield 44, 3) := by decide +kernel
theorem dX5_beamTotal_4 : decode cX5_beamTotal 4 = .ok (.ireturn, 1) := by decide +kernel
theorem dX5_has_0 : decode cX5_has 0 = .ok (.iload_n 1, 1) := by decide +kernel
theorem dX5_has_1 : decode cX5_has 1 = .ok (.ifCond .lt 22, 3) := by decide +kernel
theorem dX5_has_4 : decode cX5_has 4 = .ok (.iload_n 1, 1) := by decide +kernel
theorem dX5_has_5 : decode cX5_has 5 = .ok (.aload_n 0, 1) := by decide +kernel
theorem dX5_has_6 : decode cX5_has 6 = .ok (.getfield 40, 3) := by decide +kernel
theorem dX5_has_9 : decode cX5_has 9 = .ok (.if_icmp .ge 14, 3) := by decide +kernel
theorem dX5_has_12 : decode cX5_has 12 = .ok (.iload_n 1, 1) := by decide +kernel
theorem dX5_has_13 : decode cX5_has 13 = .ok (.sipush 128, 3) := by decide +kernel
theorem dX5_has_16 : decode cX5_has 16 = .ok (.if_icmp .ge 7, 3) := by decide +kernel
theorem dX5_has_19 : decode cX5_has 19 = .ok (.iconst 1, 1) := by decide +kernel
theorem dX5_has_20 : decode cX5_has 20 = .ok (.goto 4, 3) := by decide +kernel
theorem dX5_has_23 : decode cX5_has 23 = .ok (.iconst 0, 1) := by decide +kernel
theorem dX5_has_24 : decode cX5_has 24 = .ok (.ireturn, 1) := by decide +kernel
theorem dX5_eventAt_0 : decode cX5_eventAt 0 = .ok (.aload_n 0, 1) := by decide +kernel
theorem dX5_eventAt_1 : decode cX5_eventAt 1 = .ok (.iload_n 1, 1) := by decide +kernel
theorem dX5_eventAt_2 : decode cX5_eventAt 2 = .ok (.invokevirtual 47, 3) := by decide +kernel
theorem dX5_eventAt_5 : decode cX5_eventAt 5 = .ok (.ifCond .eq 12, 3) := by decide +kernel
theorem dX5_eventAt_8 : decode cX5_eventAt 8 = .ok (.aload_n 0, 1) := by decide +kernel
theorem dX5_eventAt_9 : decode cX5_eventAt 9 = .ok (.getfield 9, 3) := by decide +kernel
theorem dX5_eventAt_12 : decode cX5_eventAt 12 = .ok (.iload_n 1, 1) := by decide +kernel
theorem dX5_eventAt_13 : decode cX5_eventAt 13 = .ok (.iaload, 1) := by decide +kernel
theorem dX5_eventAt_14 : decode cX5_eventAt 14 = .ok (.goto 4, 3) := by decide +kernel
theorem dX5_eventAt_17 : decode cX5_eventAt 17 = .ok (.iconst (-1), 1) := by decide +kernel
theorem dX5_eventAt_18 : decode cX5_eventAt 18 = .ok (.ireturn, 1) := by decide +kernel
theorem dX5_lengthAt_0 : decode cX5_lengthAt 0 = .ok (.aload_n 0, 1) := by decide +kernel
theorem dX5_lengthAt_1 : decode cX5_lengthAt 1 = .ok (.iload_n 1, 1) := by decide +kernel
theorem dX5_lengthAt_2 : decode cX5_lengthAt 2 = .ok (.invokevirtual 47, 3) := by decide +kernel
theorem dX5_lengthAt_5 : decode cX5_lengthAt 5 = .ok (.ifCond .eq 12, 3) := by decide +kernel
theorem dX5_lengthAt_8 : decode cX5_lengthAt 8 = .ok (.aload_n 0, 1) := by decide +kernel
theorem dX5_lengthAt_9 : decode cX5_lengthAt 9 = .ok (.getfield 18, 3) := by decide +kernel
theorem dX5_lengthAt_12 : decode cX5_lengthAt 12 = .ok (.iload_n 1, 1) := by decide +kernel
theorem dX5_lengthAt_13 : decode cX5_lengthAt 13 = .ok (.iaload, 1) := by decide +kernel
theorem dX5_lengthAt_14 : decode cX5_lengthAt 14 = .ok (.goto 4, 3) := by decide +kernel
theorem dX5_lengthAt_17 : decode cX5_lengthAt 17 = .ok (.iconst 0, 1) := by decide +kernel
theorem dX5_lengthAt_18 : decode cX5_lengthAt 18 = .ok (.ireturn, 1) := by decide +kernel
theorem dX5_tiedAt_0 : decode cX5_tiedAt 0 = .ok (.aload_n 0, 1) := by decide +kernel
theorem dX5_tiedAt_1 : decode cX5_tiedAt 1 = .ok (.iload_n 1, 1) := by decide +kernel
theorem dX5_tiedAt_2 : decode cX5_tiedAt 2 = .ok (.invokevirtual 47, 3) := by decide +kernel
theorem dX5_tiedAt_5 : decode cX5_tiedAt 5 = .ok (.ifCond .eq 16, 3) := by decide +kernel
theorem dX5_tiedAt_8 : decode cX5_tiedAt 8 = .ok (.aload_n 0, 1) := by decide +kernel
theorem dX5_tiedAt_9 : decode cX5_tiedAt 9 = .ok (.getfield 25, 3) := by decide +kernel
theorem dX5_tiedAt_12 : decode cX5_tiedAt 12 = .ok (.iload_n 1, 1) := by decide +kernel
theorem dX5_tiedAt_13 : decode cX5_tiedAt 13 = .ok (.baload, 1) := by decide +kernel
theorem dX5_tiedAt_14 : decode cX5_tiedAt 14 = .ok (.ifCond .eq 7, 3) := by decide +kernel
theorem dX5_tiedAt_17 : decode cX5_tiedAt 17 = .ok (.iconst 1, 1) := by decide +kernel
theorem dX5_tiedAt_18 : decode cX5_tiedAt 18 = .ok (.goto 4, 3) := by decide +kernel
theorem dX5_tiedAt_21 : decode cX5_tiedAt 21 = .ok (.iconst 0, 1) := by decide +kernel
theorem dX5_tiedAt_22 : decode cX5_tiedAt 22 = .ok (.ireturn, 1) := by decide +kernel
theorem dX5_shownAt_0 : decode cX5_shownAt 0 = .ok (.aload_n 0, 1) := by decide +kernel
theorem dX5_shownAt_1 : decode cX5_shownAt 1 = .ok (.iload_n 1, 1) := by decide +kernel
theorem dX5_shownAt_2 : decode cX5_shownAt 2 = .ok (.invokevirtual 47, 3) := by decide +kernel
theorem dX5_shownAt_5 : decode cX5_shownAt 5 = .ok (.ifCond .eq 12, 3) := by decide +kernel
theorem dX5_shownAt_8 : decode cX5_shownAt 8 = .ok (.aload_n 0, 1) := by decide +kernel
theorem dX5_shownAt_9 : decode cX5_shownAt 9 = .ok (.getfield 28, 3) := by decide +kernel
theorem dX5_shownAt_12 : decode cX5_shownAt 12 = .ok (.iload_n 1, 1) := by decide +kernel
theorem dX5_shownAt_13 : decode cX5_shownAt 13 = .ok (.iaload, 1) := by decide +kernel
theorem dX5_shownAt_14 : decode cX5_shownAt 14 = .ok (.goto 5, 3) := by decide +kernel
theorem dX5_shownAt_17 : decode cX5_shownAt 17 = .ok (.bipush (-3), 2) := by decide +kernel
theorem dX5_shownAt_19 : decode cX5_shownAt 19 = .ok (.ireturn, 1) := by decide +kernel
theorem dX5_shownAsWrittenAt_0 : decode cX5_shownAsWrittenAt 0 = .ok (.aload_n 0, 1) := by decide +kernel
theorem dX5_shownAsWrittenAt_1 : decode cX5_shownAsWrittenAt 1 = .ok (.iload_n 1, 1) := by decide +kernel
theorem dX5_shownAsWrittenAt_2 : decode cX5_shownAsWrittenAt 2 = .ok (.invokevirtual 47, 3) := by decide +kernel
theorem dX5_shownAsWrittenAt_5 : decode cX5_shownAsWrittenAt 5 = .ok (.ifCond .eq 12, 3) := by decide +kernel
theorem dX5_shownAsWrittenAt_8 : decode cX5_shownAsWrittenAt 8 = .ok (.aload_n 0, 1) := by decide +kernel
theorem dX5_shownAsWrittenAt_9 : decode cX5_shownAsWrittenAt 9 = .ok (.getfield 31, 3) := by decide +kernel
theorem dX5_shownAsWrittenAt_12 : decode cX5_shownAsWrittenAt 12 = .ok (.iload_n 1, 1) := by decide +kernel
theorem dX5_shownAsWrittenAt_13 : decode cX5_shownAsWrittenAt 13 = .ok (.iaload, 1) := by decide +kernel
theorem dX5_shownAsWrittenAt_14 : decode cX5_shownAsWrittenAt 14 = .ok (.goto 5, 3) := by decide +kernel
theorem dX5_shownAsWrittenAt_17 : decode cX5_shownAsWrittenAt 17 = .ok (.bipush (-3), 2) := by decide +kernel
theorem dX5_shownAsWrittenAt_19 : decode cX5_shownAsWrittenAt 19 = .ok (.ireturn, 1) := by decide +kernel
theorem dX5_beamAt_0 : decode cX5_beamAt 0 = .ok (.aload_n 0, 1) := by decide +kernel
theorem dX5_beamAt_1 : decode cX5_beamAt 1 = .ok (.iload_n 1, 1) := by decide +kernel
theorem dX5_beamAt_2 : decode cX5_beamAt 2 = .ok (.invokevirtual 47, 3) := by decide +kernel
theorem dX5_beamAt_5 : decode cX5_beamAt 5 = .ok (.ifCond .eq 12, 3) := by decide +kernel
theorem dX5_beamAt_8 : decode cX5_beamAt 8 = .ok (.aload_n 0, 1) := by decide +kernel
theorem dX5_beamAt_9 : decode cX5_beamAt 9 = .ok (.getfield 34, 3) := by decide +kernel
theorem dX5_beamAt_12 : decode cX5_beamAt 12 = .ok (.iload_n 1, 1) := by decide +kernel
theorem dX5_beamAt_13 : decode cX5_beamAt 13 = .ok (.iaload, 1) := by decide +kernel
theorem dX5_beamAt_14 : decode cX5_beamAt 14 = .ok (.goto 4, 3) := by decide +kernel
theorem dX5_beamAt_17 : decode cX5_beamAt 17 = .ok (.iconst (-1), 1) := by decide +kernel
theorem dX5_beamAt_18 : decode cX5_beamAt 18 = .ok (.ireturn, 1) := by decide +kernel
theorem dX5_write_0 : decode cX5_write 0 = .ok (.aload_n 2, 1) := by decide +kernel
theorem dX5_write_1 : decode cX5_write 1 = .ok (.iload_n 3, 1) := by decide +kernel
theorem dX5_write_2 : decode cX5_write 2 = .ok (.invokevirtual 51, 3) := by decide +kernel
theorem dX5_write_5 : decode cX5_write 5 = .ok (.istore 4, 2) := by decide +kernel
theorem dX5_write_7 : decode cX5_write 7 = .ok (.iload 4, 2) := by decide +kernel
theorem dX5_write_9 : decode cX5_write 9 = .ok (.aload_n 2, 1) := by decide +kernel
theorem dX5_write_10 : decode cX5_write 10 = .ok (.iload_n 3, 1) := by decide +kernel
theorem dX5_write_11 : decode cX5_write 11 = .ok (.invokevirtual 57, 3) := by decide +kernel
theorem dX5_write_14 : decode cX5_write 14 = .ok (.iadd, 1) := by decide +kernel
theorem dX5_write_15 : decode cX5_write 15 = .ok (.istore 5, 2) := by decide +kernel
theorem dX5_write_17 : decode cX5_write 17 = .ok (.aload_n 0, 1) := by decide +kernel
theorem dX5_write_18 : decode cX5_write 18 = .ok (.iconst 0, 1) := by decide +kernel
theorem dX5_write_19 : decode cX5_write 19 = .ok (.putfield 40, 3) := by decide +kernel
theorem dX5_write_22 : decode cX5_write 22 = .ok (.aload_n 1, 1) := by decide +kernel
theorem dX5_write_23 : decode cX5_write 23 = .ok (.iload 4, 2) := by decide +kernel
theorem dX5_write_25 : decode cX5_write 25 = .ok (.invokevirtual 60, 3) := by decide +kernel
theorem dX5_write_28 : decode cX5_write 28 = .ok (.istore 6, 2) := by decide +kernel
theorem dX5_write_30 : decode cX5_write 30 = .ok (.iload 6, 2) := by decide +kernel
theorem dX5_write_32 : decode cX5_write 32 = .ok (.aload_n 1, 1) := by decide +kernel
theorem dX5_write_33 : decode cX5_write 33 = .ok (.invokevirtual 65, 3) := by decide +kernel
theorem dX5_write_36 : decode cX5_write 36 = .ok (.if_icmp .ge 52, 3) := by decide +kernel
theorem dX5_write_39 : decode cX5_write 39 = .ok (.aload_n 1, 1) := by decide +kernel
theorem dX5_write_40 : decode cX5_write 40 = .ok (.iload 6, 2) := by decide +kernel
theorem dX5_write_42 : decode cX5_write 42 = .ok (.invokevirtual 69, 3) := by decide +kernel
theorem dX5_write_45 : decode cX5_write 45 = .ok (.iload 5, 2) := by decide +kernel
theorem dX5_write_47 : decode cX5_write 47 = .ok (.if_icmp .ge 41, 3) := by decide +kernel
theorem dX5_write_50 : decode cX5_write 50 = .ok (.iload 5, 2) := by decide +kernel
theorem dX5_write_52 : decode cX5_write 52 = .ok (.aload_n 1, 1) := by decide +kernel
theorem dX5_write_53 : decode cX5_write 53 = .ok (.iload 6, 2) := by decide +kernel
theorem dX5_write_55 : decode cX5_write 55 = .ok (.invokevirtual 70, 3) := by decide +kernel
theorem dX5_write_58 : decode cX5_write 58 = .ok (.invokestatic 73, 3) := by decide +kernel
theorem dX5_write_61 : decode cX5_write 61 = .ok (.istore 7, 2) := by decide +kernel
theorem dX5_write_63 : decode cX5_write 63 = .ok (.aload_n 0, 1) := by decide +kernel
theorem dX5_write_64 : decode cX5_write 64 = .ok (.iload 6, 2) := by decide +kernel
theorem dX5_write_66 : decode cX5_write 66 = .ok (.iload 4, 2) := by decide +kernel
theorem dX5_write_68 : decode cX5_write 68 = .ok (.aload_n 1, 1) := by decide +kernel
theorem dX5_write_69 : decode cX5_write 69 = .ok (.iload 6, 2) := by decide +kernel
theorem dX5_write_71 : decode cX5_write 71 = .ok (.invokevirtual 69, 3) := by decide +kernel
theorem dX5_write_74 : decode cX5_write 74 = .ok (.invokestatic 79, 3) := by decide +kernel
theorem dX5_write_77 : decode cX5_write 77 = .ok (.iload 7, 2) := by decide +kernel
theorem dX5_write_79 : decode cX5_write 79 = .ok (.invokevirtual 82, 3) := by decide +kernel
theorem dX5_write_82 : decode cX5_write 82 = .ok (.iinc 6 1, 3) := by decide +kernel
theorem dX5_write_85 : decode cX5_write 85 = .ok (.goto (-55), 3) := by decide +kernel
theorem dX5_write_88 : decode cX5_write 88 = .ok (.aload_n 0, 1) := by decide +kernel
theorem dX5_write_89 : decode cX5_write 89 = .ok (.aload_n 1, 1) := by decide +kernel
theorem dX5_write_90 : decode cX5_write 90 = .ok (.aload_n 2, 1) := by decide +kernel
theorem dX5_write_91 : decode cX5_write 91 = .ok (.invokevirtual 86, 3) := by decide +kernel
theorem dX5_write_94 : decode cX5_write 94 = .ok (.invokevirtual 89, 3) := by decide +kernel
theorem dX5_write_97 : decode cX5_write 97 = .ok (.aload_n 0, 1) := by decide +kernel
theorem dX5_write_98 : decode cX5_write 98 = .ok (.aload_n 1, 1) := by decide +kernel
theorem dX5_write_99 : decode cX5_write 99 = .ok (.iload 4, 2) := by decide +kernel
theorem dX5_write_101 : decode cX5_write 101 = .ok (.aload_n 2, 1) := by decide +kernel
theorem dX5_write_102 : decode cX5_write 102 = .ok (.iload_n 3, 1) := by decide +kernel
theorem dX5_write_103 : decode cX5_write 103 = .ok (.invokevirtual 93, 3) := by decide +kernel
theorem dX5_write_106 : decode cX5_write 106 = .ok (.invokevirtual 96, 3) := by decide +kernel
theorem dX5_write_109 : decode cX5_write 109 = .ok (.aload_n 0, 1) := by decide +kernel
theorem dX5_write_110 : decode cX5_write 110 = .ok (.aload_n 1, 1) := by decide +kernel
theorem dX5_write_111 : decode cX5_write 111 = .ok (.aload_n 2, 1) := by decide +kernel
theorem dX5_write_112 : decode cX5_write 112 = .ok (.iload_n 3, 1) := by decide +kernel
theorem dX5_write_113 : decode cX5_write 113 = .ok (.invokevirtual 100, 3) := by decide +kernel
theorem dX5_write_116 : decode cX5_write 116 = .ok (.invokevirtual 103, 3) := by decide +kernel
theorem dX5_write_119 : decode cX5_write 119 = .ok (.aload_n 0, 1) := by decide +kernel
theorem dX5_write_120 : decode cX5_write 120 = .ok (.aload_n 1, 1) := by decide +kernel
theorem dX5_write_121 : decode cX5_write 121 = .ok (.aload_n 1, 1) := by decide +kernel
theorem dX5_write_122 : decode cX5_write 122 = .ok (.aload_n 2, 1) := by decide +kernel
theorem dX5_write_123 : decode cX5_write 123 = .ok (.iload_n 3, 1) := by decide +kernel
theorem dX5_write_124 : decode cX5_write 124 = .ok (.invokevirtual 100, 3) := by decide +kernel
theorem dX5_write_127 : decode cX5_write 127 = .ok (.invokevirtual 106, 3) := by decide +kernel
theorem dX5_write_130 : decode cX5_write 130 = .ok (.invokevirtual 109, 3) := by decide +kernel
theorem dX5_write_133 : decode cX5_write 133 = .ok (.return_, 1) := by decide +kernel
theorem dX5_writeStretch_0 : decode cX5_writeStretch 0 = .ok (.iload_n 2, 1) := by decide +kernel
theorem dX5_writeStretch_1 : decode cX5_writeStretch 1 = .ok (.istore 4, 2) := by decide +kernel
theorem dX5_writeStretch_3 : decode cX5_writeStretch 3 = .ok (.iconst 0, 1) := by decide +kernel
theorem dX5_writeStretch_4 : decode cX5_writeStretch 4 = .ok (.istore 5, 2) := by decide +kernel
theorem dX5_writeStretch_6 : decode cX5_writeStretch 6 = .ok (.iload 5, 2) := by decide +kernel
theorem dX5_writeStretch_8 : decode cX5_writeStretch 8 = .ok (.sipush 128, 3) := by decide +kernel
theorem dX5_writeStretch_11 : decode cX5_writeStretch 11 = .ok (.if_icmp .ge 40, 3) := by decide +kernel
theorem dX5_writeStretch_14 : decode cX5_writeStretch 14 = .ok (.iload 4, 2) := by decide +kernel
theorem dX5_writeStretch_16 : decode cX5_writeStretch 16 = .ok (.iload_n 3, 1) := by decide +kernel
theorem dX5_writeStretch_17 : decode cX5_writeStretch 17 = .ok (.if_icmp .ge 34, 3) := by decide +kernel
theorem dX5_writeStretch_20 : decode cX5_writeStretch 20 = .ok (.iload_n 3, 1) := by decide +kernel
theorem dX5_writeStretch_21 : decode cX5_writeStretch 21 = .ok (.iload 4, 2) := by decide +kernel
theorem dX5_writeStretch_23 : decode cX5_writeStretch 23 = .ok (.isub, 1) := by decide +kernel
theorem dX5_writeStretch_24 : decode cX5_writeStretch 24 = .ok (.invokestatic 112, 3) := by decide +kernel
theorem dX5_writeStretch_27 : decode cX5_writeStretch 27 = .ok (.istore 6, 2) := by decide +kernel
theorem dX5_writeStretch_29 : decode cX5_writeStretch 29 = .ok (.aload_n 0, 1) := by decide +kernel
theorem dX5_writeStretch_30 : decode cX5_writeStretch 30 = .ok (.iload_n 1, 1) := by decide +kernel
theorem dX5_writeStretch_31 : decode cX5_writeStretch 31 = .ok (.iload 4, 2) := by decide +kernel
theorem dX5_writeStretch_33 : decode cX5_writeStretch 33 = .ok (.iload 6, 2) := by decide +kernel
theorem dX5_writeStretch_35 : decode cX5_writeStretch 35 = .ok (.invokevirtual 117, 3) := by decide +kernel
theorem dX5_writeStretch_38 : decode cX5_writeStretch 38 = .ok (.iload 4, 2) := by decide +kernel
theorem dX5_writeStretch_40 : decode cX5_writeStretch 40 = .ok (.iload 6, 2) := by decide +kernel
theorem dX5_writeStretch_42 : decode cX5_writeStretch 42 = .ok (.iadd, 1) := by decide +kernel
theorem dX5_writeStretch_43 : decode cX5_writeStretch 43 = .ok (.istore 4, 2) := by decide +kernel
theorem dX5_writeStretch_45 : decode cX5_writeStretch 45 = .ok (.iinc 5 1, 3) := by decide +kernel
theorem dX5_writeStretch_48 : decode cX5_writeStretch 48 = .ok (.goto (-42), 3) := by decide +kernel
theorem dX5_writeStretch_51 : decode cX5_writeStretch 51 = .ok (.return_, 1) := by decide +kernel
theorem dX5_addSign_0 : decode cX5_addSign 0 = .ok (.aload_n 0, 1) := by decide +kernel
theorem dX5_addSign_1 : decode cX5_addSign 1 = .ok (.getfield 40, 3) := by decide +kernel
theorem dX5_addSign_4 : decode cX5_addSign 4 = .ok (.ifCond .lt 13, 3) := by decide +kernel
theorem dX5_addSign_7 : decode cX5_addSign 7 = .ok (.aload_n 0, 1) := by decide +kernel
theorem dX5_addSign_8 : decode cX5_addSign 8 = .ok (.getfield 40, 3) := by decide +kernel
theorem dX5_addSign_11 : decode cX5_addSign 11 = .ok (.sipush 128, 3) := by decide +kernel
theorem dX5_addSign_14 : decode cX5_addSign 14 = .ok (.if_icmp .lt 4, 3) := by decide +kernel
theorem dX5_addSign_17 : decode cX5_addSign 17 = .ok (.return_, 1) := by decide +kernel
theorem dX5_addSign_18 : decode cX5_addSign 18 = .ok (.aload_n 0, 1) := by decide +kernel
theorem dX5_addSign_19 : decode cX5_addSign 19 = .ok (.getfield 9, 3) := by decide +kernel
theorem dX5_addSign_22 : decode cX5_addSign 22 = .ok (.aload_n 0, 1) := by decide +kernel
theorem dX5_addSign_23 : decode cX5_addSign 23 = .ok (.getfield 40, 3) := by decide +kernel
theorem dX5_addSign_26 : decode cX5_addSign 26 = .ok (.iload_n 1, 1) := by decide +kernel
theorem dX5_addSign_27 : decode cX5_addSign 27 = .ok (.iastore, 1) := by decide +kernel
theorem dX5_addSign_28 : decode cX5_addSign 28 = .ok (.aload_n 0, 1) := by decide +kernel
theorem dX5_addSign_29 : decode cX5_addSign 29 = .ok (.getfield 15, 3) := by decide +kernel
theorem dX5_addSign_32 : decode cX5_addSign 32 = .ok (.aload_n 0, 1) := by decide +kernel
theorem dX5_addSign_33 : decode cX5_addSign 33 = .ok (.getfield 40, 3) := by decide +kernel
theorem dX5_addSign_36 : decode cX5_addSign 36 = .ok (.iload_n 2, 1) := by decide +kernel
theorem dX5_addSign_37 : decode cX5_addSign 37 = .ok (.iastore, 1) := by decide +kernel
theorem dX5_addSign_38 : decode cX5_addSign 38 = .ok (.aload_n 0, 1) := by decide +kernel
theorem dX5_addSign_39 : decode cX5_addSign 39 = .ok (.getfield 18, 3) := by decide +kernel
theorem dX5_addSign_42 : decode cX5_addSign 42 = .ok (.aload_n 0, 1) := by decide +kernel
theorem dX5_addSign_43 : decode cX5_addSign 43 = .ok (.getfield 40, 3) := by decide +kernel
theorem dX5_addSign_46 : decode cX5_addSign 46 = .ok (.iload_n 3, 1) := by decide +kernel
theorem dX5_addSign_47 : decode cX5_addSign 47 = .ok (.iastore, 1) := by decide +kernel
theorem dX5_addSign_48 : decode cX5_addSign 48 = .ok (.aload_n 0, 1) := by decide +kernel
theorem dX5_addSign_49 : decode cX5_addSign 49 = .ok (.dup, 1) := by decide +kernel
theorem dX5_addSign_50 : decode cX5_addSign 50 = .ok (.getfield 40, 3) := by decide +kernel
theorem dX5_addSign_53 : decode cX5_addSign 53 = .ok (.iconst 1, 1) := by decide +kernel
theorem dX5_addSign_54 : decode cX5_addSign 54 = .ok (.iadd, 1) := by decide +kernel
theorem dX5_addSign_55 : decode cX5_addSign 55 = .ok (.putfield 40, 3) := by decide +kernel
theorem dX5_addSign_58 : decode cX5_addSign 58 = .ok (.return_, 1) := by decide +kernel
theorem dX5_markSigns_0 : decode cX5_markSigns 0 = .ok (.iconst 0, 1) := by decide +kernel
theorem dX5_markSigns_1 : decode cX5_markSigns 1 = .ok (.istore_n 3, 1) := by decide +kernel
theorem dX5_markSigns_2 : decode cX5_markSigns 2 = .ok (.iload_n 3, 1) := by decide +kernel
theorem dX5_markSigns_3 : decode cX5_markSigns 3 = .ok (.aload_n 0, 1) := by decide +kernel
theorem dX5_markSigns_4 : decode cX5_markSigns 4 = .ok (.getfield 40, 3) := by decide +kernel
theorem dX5_markSigns_7 : decode cX5_markSigns 7 = .ok (.if_icmp .ge 109, 3) := by decide +kernel
theorem dX5_markSigns_10 : decode cX5_markSigns 10 = .ok (.iload_n 3, 1) := by decide +kernel
theorem dX5_markSigns_11 : decode cX5_markSigns 11 = .ok (.sipush 128, 3) := by decide +kernel
theorem dX5_markSigns_14 : decode cX5_markSigns 14 = .ok (.if_icmp .ge 102, 3) := by decide +kernel
theorem dX5_markSigns_17 : decode cX5_markSigns 17 = .ok (.aload_n 0, 1) := by decide +kernel
theorem dX5_markSigns_18 : decode cX5_markSigns 18 = .ok (.getfield 9, 3) := by decide +kernel
theorem dX5_markSigns_21 : decode cX5_markSigns 21 = .ok (.iload_n 3, 1) := by decide +kernel
theorem dX5_markSigns_22 : decode cX5_markSigns 22 = .ok (.iaload, 1) := by decide +kernel
theorem dX5_markSigns_23 : decode cX5_markSigns 23 = .ok (.istore 4, 2) := by decide +kernel
theorem dX5_markSigns_25 : decode cX5_markSigns 25 = .ok (.aload_n 1, 1) := by decide +kernel
theorem dX5_markSigns_26 : decode cX5_markSigns 26 = .ok (.iload 4, 2) := by decide +kernel
theorem dX5_markSigns_28 : decode cX5_markSigns 28 = .ok (.invokevirtual 70, 3) := by decide +kernel
theorem dX5_markSigns_31 : decode cX5_markSigns 31 = .ok (.iload_n 2, 1) := by decide +kernel
theorem dX5_markSigns_32 : decode cX5_markSigns 32 = .ok (.invokestatic 73, 3) := by decide +kernel
theorem dX5_markSigns_35 : decode cX5_markSigns 35 = .ok (.istore 5, 2) := by decide +kernel
theorem dX5_markSigns_37 : decode cX5_markSigns 37 = .ok (.aload_n 0, 1) := by decide +kernel
theorem dX5_markSigns_38 : decode cX5_markSigns 38 = .ok (.getfield 25, 3) := by decide +kernel
theorem dX5_markSigns_41 : decode cX5_markSigns 41 = .ok (.iload_n 3, 1) := by decide +kernel
theorem dX5_markSigns_42 : decode cX5_markSigns 42 = .ok (.aload_n 1, 1) := by decide +kernel
theorem dX5_markSigns_43 : decode cX5_markSigns 43 = .ok (.iload 4, 2) := by decide +kernel
theorem dX5_markSigns_45 : decode cX5_markSigns 45 = .ok (.invokevirtual 120, 3) := by decide +kernel
theorem dX5_markSigns_48 : decode cX5_markSigns 48 = .ok (.ifCond .eq 25, 3) := by decide +kernel
theorem dX5_markSigns_51 : decode cX5_markSigns 51 = .ok (.aload_n 0, 1) := by decide +kernel
theorem dX5_markSigns_52 : decode cX5_markSigns 52 = .ok (.getfield 15, 3) := by decide +kernel
theorem dX5_markSigns_55 : decode cX5_markSigns 55 = .ok (.iload_n 3, 1) := by decide +kernel
theorem dX5_markSigns_56 : decode cX5_markSigns 56 = .ok (.iaload, 1) := by decide +kernel
theorem dX5_markSigns_57 : decode cX5_markSigns 57 = .ok (.aload_n 0, 1) := by decide +kernel
theorem dX5_markSigns_58 : decode cX5_markSigns 58 = .ok (.getfield 18, 3) := by decide +kernel
theorem dX5_markSigns_61 : decode cX5_markSigns 61 = .ok (.iload_n 3, 1) := by decide +kernel
theorem dX5_markSigns_62 : decode cX5_markSigns 62 = .ok (.iaload, 1) := by decide +kernel
theorem dX5_markSigns_63 : decode cX5_markSigns 63 = .ok (.iadd, 1) := by decide +kernel
theorem dX5_markSigns_64 : decode cX5_markSigns 64 = .ok (.iload 5, 2) := by decide +kernel
theorem dX5_markSigns_66 : decode cX5_markSigns 66 = .ok (.if_icmp .ge 7, 3) := by decide +kernel
theorem dX5_markSigns_69 : decode cX5_markSigns 69 = .ok (.iconst 1, 1) := by decide +kernel
theorem dX5_markSigns_70 : decode cX5_markSigns 70 = .ok (.goto 4, 3) := by decide +kernel
theorem dX5_markSigns_73 : decode cX5_markSigns 73 = .ok (.iconst 0, 1) := by decide +kernel
theorem dX5_markSigns_74 : decode cX5_markSigns 74 = .ok (.bastore, 1) := by decide +kernel
theorem dX5_markSigns_75 : decode cX5_markSigns 75 = .ok (.aload_n 0, 1) := by decide +kernel
theorem dX5_markSigns_76 : decode cX5_markSigns 76 = .ok (.getfield 21, 3) := by decide +kernel
theorem dX5_markSigns_79 : decode cX5_markSigns 79 = .ok (.iload_n 3, 1) := by decide +kernel
theorem dX5_markSigns_80 : decode cX5_markSigns 80 = .ok (.aload_n 1, 1) := by decide +kernel
theorem dX5_markSigns_81 : decode cX5_markSigns 81 = .ok (.iload 4, 2) := by decide +kernel
theorem dX5_markSigns_83 : decode cX5_markSigns 83 = .ok (.invokevirtual 120, 3) := by decide +kernel
theorem dX5_markSigns_86 : decode cX5_markSigns 86 = .ok (.ifCond .eq 22, 3) := by decide +kernel
theorem dX5_markSigns_89 : decode cX5_markSigns 89 = .ok (.aload_n 0, 1) := by decide +kernel
theorem dX5_markSigns_90 : decode cX5_markSigns 90 = .ok (.getfield 15, 3) := by decide +kernel
theorem dX5_markSigns_93 : decode cX5_markSigns 93 = .ok (.iload_n 3, 1) := by decide +kernel
theorem dX5_markSigns_94 : decode cX5_markSigns 94 = .ok (.iaload, 1) := by decide +kernel
theorem dX5_markSigns_95 : decode cX5_markSigns 95 = .ok (.aload_n 1, 1) := by decide +kernel
theorem dX5_markSigns_96 : decode cX5_markSigns 96 = .ok (.iload 4, 2) := by decide +kernel
theorem dX5_markSigns_98 : decode cX5_markSigns 98 = .ok (.invokevirtual 69, 3) := by decide +kernel
theorem dX5_markSigns_101 : decode cX5_markSigns 101 = .ok (.if_icmp .ne 7, 3) := by decide +kernel
theorem dX5_markSigns_104 : decode cX5_markSigns 104 = .ok (.iconst 1, 1) := by decide +kernel
theorem dX5_markSigns_105 : decode cX5_markSigns 105 = .ok (.goto 4, 3) := by decide +kernel
theorem dX5_markSigns_108 : decode cX5_markSigns 108 = .ok (.iconst 0, 1) := by decide +kernel
theorem dX5_markSigns_109 : decode cX5_markSigns 109 = .ok (.bastore, 1) := by decide +kernel
theorem dX5_markSigns_110 : decode cX5_markSigns 110 = .ok (.iinc 3 1, 3) := by decide +kernel
theorem dX5_markSigns_113 : decode cX5_markSigns 113 = .ok (.goto (-111), 3) := by decide +kernel
theorem dX5_markSigns_116 : decode cX5_markSigns 116 = .ok (.return_, 1) := by decide +kernel
theorem dX5_beamSigns_0 : decode cX5_beamSigns 0 = .ok (.aload_n 0, 1) := by decide +kernel
theorem dX5_beamSigns_1 : decode cX5_beamSigns 1 = .ok (.iconst 0, 1) := by decide +kernel
theorem dX5_beamSigns_2 : decode cX5_beamSigns 2 = .ok (.putfield 44, 3) := by decide +kernel
theorem dX5_beamSigns_5 : decode cX5_beamSigns 5 = .ok (.iconst (-1), 1) := by decide +kernel
theorem dX5_beamSigns_6 : decode cX5_beamSigns 6 = .ok (.istore 4, 2) := by decide +kernel
theorem dX5_beamSigns_8 : decode cX5_beamSigns 8 = .ok (.iconst 0, 1) := by decide +kernel
theorem dX5_beamSigns_9 : decode cX5_beamSigns 9 = .ok (.istore 5, 2) := by decide +kernel
theorem dX5_beamSigns_11 : decode cX5_beamSigns 11 = .ok (.iload 5, 2) := by decide +kernel
theorem dX5_beamSigns_13 : decode cX5_beamSigns 13 = .ok (.aload_n 0, 1) := by decide +kernel
theorem dX5_beamSigns_14 : decode cX5_beamSigns 14 = .ok (.getfield 40, 3) := by decide +kernel
theorem dX5_beamSigns_17 : decode cX5_beamSigns 17 = .ok (.if_icmp .ge 99, 3) := by decide +kernel
theorem dX5_beamSigns_20 : decode cX5_beamSigns 20 = .ok (.iload 5, 2) := by decide +kernel
theorem dX5_beamSigns_22 : decode cX5_beamSigns 22 = .ok (.sipush 128, 3) := by decide +kernel
theorem dX5_beamSigns_25 : decode cX5_beamSigns 25 = .ok (.if_icmp .ge 91, 3) := by decide +kernel
theorem dX5_beamSigns_28 : decode cX5_beamSigns 28 = .ok (.iconst (-1), 1) := by decide +kernel
theorem dX5_beamSigns_29 : decode cX5_beamSigns 29 = .ok (.istore 6, 2) := by decide +kernel
theorem dX5_beamSigns_31 : decode cX5_beamSigns 31 = .ok (.iload_n 3, 1) := by decide +kernel
theorem dX5_beamSigns_32 : decode cX5_beamSigns 32 = .ok (.ifCond .le 42, 3) := by decide +kernel
theorem dX5_beamSigns_35 : decode cX5_beamSigns 35 = .ok (.aload_n 0, 1) := by decide +kernel
theorem dX5_beamSigns_36 : decode cX5_beamSigns 36 = .ok (.getfield 18, 3) := by decide +kernel
theorem dX5_beamSigns_39 : decode cX5_beamSigns 39 = .ok (.iload 5, 2) := by decide +kernel
theorem dX5_beamSigns_41 : decode cX5_beamSigns 41 = .ok (.iaload, 1) := by decide +kernel
theorem dX5_beamSigns_42 : decode cX5_beamSigns 42 = .ok (.bipush 12, 2) := by decide +kernel
theorem dX5_beamSigns_44 : decode cX5_beamSigns 44 = .ok (.if_icmp .gt 30, 3) := by decide +kernel
theorem dX5_beamSigns_47 : decode cX5_beamSigns 47 = .ok (.aload_n 1, 1) := by decide +kernel
theorem dX5_beamSigns_48 : decode cX5_beamSigns 48 = .ok (.aload_n 0, 1) := by decide +kernel
theorem dX5_beamSigns_49 : decode cX5_beamSigns 49 = .ok (.getfield 9, 3) := by decide +kernel
theorem dX5_beamSigns_52 : decode cX5_beamSigns 52 = .ok (.iload 5, 2) := by decide +kernel
theorem dX5_beamSigns_54 : decode cX5_beamSigns 54 = .ok (.iaload, 1) := by decide +kernel
theorem dX5_beamSigns_55 : decode cX5_beamSigns 55 = .ok (.invokevirtual 120, 3) := by decide +kernel
theorem dX5_beamSigns_58 : decode cX5_beamSigns 58 = .ok (.ifCond .eq 16, 3) := by decide +kernel
theorem dX5_beamSigns_61 : decode cX5_beamSigns 61 = .ok (.aload_n 0, 1) := by decide +kernel
theorem dX5_beamSigns_62 : decode cX5_beamSigns 62 = .ok (.getfield 15, 3) := by decide +kernel
theorem dX5_beamSigns_65 : decode cX5_beamSigns 65 = .ok (.iload 5, 2) := by decide +kernel
theorem dX5_beamSigns_67 : decode cX5_beamSigns 67 = .ok (.iaload, 1) := by decide +kernel
theorem dX5_beamSigns_68 : decode cX5_beamSigns 68 = .ok (.iload_n 2, 1) := by decide +kernel
theorem dX5_beamSigns_69 : decode cX5_beamSigns 69 = .ok (.isub, 1) := by decide +kernel
theorem dX5_beamSigns_70 : decode cX5_beamSigns 70 = .ok (.iload_n 3, 1) := by decide +kernel
theorem dX5_beamSigns_71 : decode cX5_beamSigns 71 = .ok (.idiv, 1) := by decide +kernel
theorem dX5_beamSigns_72 : decode cX5_beamSigns 72 = .ok (.istore 6, 2) := by decide +kernel
theorem dX5_beamSigns_74 : decode cX5_beamSigns 74 = .ok (.aload_n 0, 1) := by decide +kernel
theorem dX5_beamSigns_75 : decode cX5_beamSigns 75 = .ok (.getfield 34, 3) := by decide +kernel
theorem dX5_beamSigns_78 : decode cX5_beamSigns 78 = .ok (.iload 5, 2) := by decide +kernel
theorem dX5_beamSigns_80 : decode cX5_beamSigns 80 = .ok (.iconst (-1), 1) := by decide +kernel
theorem dX5_beamSigns_81 : decode cX5_beamSigns 81 = .ok (.iastore, 1) := by decide +kernel
theorem dX5_beamSigns_82 : decode cX5_beamSigns 82 = .ok (.iload 5, 2) := by decide +kernel
theorem dX5_beamSigns_84 : decode cX5_beamSigns 84 = .ok (.ifCond .le 22, 3) := by decide +kernel
theorem dX5_beamSigns_87 : decode cX5_beamSigns 87 = .ok (.iload 6, 2) := by decide +kernel
theorem dX5_beamSigns_89 : decode cX5_beamSigns 89 = .ok (.iconst (-1), 1) := by decide +kernel
theorem dX5_beamSigns_90 : decode cX5_beamSigns 90 = .ok (.if_icmp .eq 16, 3) := by decide +kernel
theorem dX5_beamSigns_93 : decode cX5_beamSigns 93 = .ok (.iload 6, 2) := by decide +kernel
theorem dX5_beamSigns_95 : decode cX5_beamSigns 95 = .ok (.iload 4, 2) := by decide +kernel
theorem dX5_beamSigns_97 : decode cX5_beamSigns 97 = .ok (.if_icmp .ne 9, 3) := by decide +kernel
theorem dX5_beamSigns_100 : decode cX5_beamSigns 100 = .ok (.aload_n 0, 1) := by decide +kernel
theorem dX5_beamSigns_101 : decode cX5_beamSigns 101 = .ok (.iload 5, 2) := by decide +kernel
theorem dX5_beamSigns_103 : decode cX5_beamSigns 103 = .ok (.invokevirtual 123, 3) := by decide +kernel
theorem dX5_beamSigns_106 : decode cX5_beamSigns 106 = .ok (.iload 6, 2) := by decide +kernel
theorem dX5_beamSigns_108 : decode cX5_beamSigns 108 = .ok (.istore 4, 2) := by decide +kernel
theorem dX5_beamSigns_110 : decode cX5_beamSigns 110 = .ok (.iinc 5 1, 3) := by decide +kernel
theorem dX5_beamSigns_113 : decode cX5_beamSigns 113 = .ok (.goto (-102), 3) := by decide +kernel
theorem dX5_beamSigns_116 : decode cX5_beamSigns 116 = .ok (.return_, 1) := by decide +kernel
theorem dX5_joinToSignAhead_0 : decode cX5_joinToSignAhead 0 = .ok (.aload_n 0, 1) := by decide +kernel
theorem dX5_joinToSignAhead_1 : decode cX5_joinToSignAhead 1 = .ok (.iload_n 1, 1) := by decide +kernel
theorem dX5_joinToSignAhead_2 : decode cX5_joinToSignAhead 2 = .ok (.invokevirtual 47, 3) := by decide +kernel
theorem dX5_joinToSignAhead_5 : decode cX5_joinToSignAhead 5 = .ok (.ifCond .eq 13, 3) := by decide +kernel
theorem dX5_joinToSignAhead_8 : decode cX5_joinToSignAhead 8 = .ok (.aload_n 0, 1) := by decide +kernel
theorem dX5_joinToSignAhead_9 : decode cX5_joinToSignAhead 9 = .ok (.iload_n 1, 1) := by decide +kernel
theorem dX5_joinToSignAhead_10 : decode cX5_joinToSignAhead 10 = .ok (.iconst 1, 1) := by decide +kernel
theorem dX5_joinToSignAhead_11 : decode cX5_joinToSignAhead 11 = .ok (.isub, 1) := by decide +kernel
theorem dX5_joinToSignAhead_12 : decode cX5_joinToSignAhead 12 = .ok (.invokevirtual 47, 3) := by decide +kernel
theorem dX5_joinToSignAhead_15 : decode cX5_joinToSignAhead 15 = .ok (.ifCond .ne 4, 3) := by decide +kernel
theorem dX5_joinToSignAhead_18 : decode cX5_joinToSignAhead 18 = .ok (.return_, 1) := by decide +kernel
theorem dX5_joinToSignAhead_19 : decode cX5_joinToSignAhead 19 = .ok (.aload_n 0, 1) := by decide +kernel
theorem dX5_joinToSignAhead_20 : decode cX5_joinToSignAhead 20 = .ok (.getfield 34, 3) := by decide +kernel
theorem dX5_joinToSignAhead_23 : decode cX5_joinToSignAhead 23 = .ok (.iload_n 1, 1) := by decide +kernel
theorem dX5_joinToSignAhead_24 : decode cX5_joinToSignAhead 24 = .ok (.iconst 1, 1) := by decide +kernel
theorem dX5_joinToSignAhead_25 : decode cX5_joinToSignAhead 25 = .ok (.isub, 1) := by decide +kernel
theorem dX5_joinToSignAhead_26 : decode cX5_joinToSignAhead 26 = .ok (.iaload, 1) := by decide +kernel
theorem dX5_joinToSignAhead_27 : decode cX5_joinToSignAhead 27 = .ok (.iconst (-1), 1) := by decide +kernel
theorem dX5_joinToSignAhead_28 : decode cX5_joinToSignAhead 28 = .ok (.if_icmp .ne 25, 3) := by decide +kernel
theorem dX5_joinToSignAhead_31 : decode cX5_joinToSignAhead 31 = .ok (.aload_n 0, 1) := by decide +kernel
theorem dX5_joinToSignAhead_32 : decode cX5_joinToSignAhead 32 = .ok (.getfield 34, 3) := by decide +kernel
theorem dX5_joinToSignAhead_35 : decode cX5_joinToSignAhead 35 = .ok (.iload_n 1, 1) := by decide +kernel
theorem dX5_joinToSignAhead_36 : decode cX5_joinToSignAhead 36 = .ok (.iconst 1, 1) := by decide +kernel
theorem dX5_joinToSignAhead_37 : decode cX5_joinToSignAhead 37 = .ok (.isub, 1) := by decide +kernel
theorem dX5_joinToSignAhead_38 : decode cX5_joinToSignAhead 38 = .ok (.aload_n 0, 1) := by decide +kernel
theorem dX5_joinToSignAhead_39 : decode cX5_joinToSignAhead 39 = .ok (.getfield 44, 3) := by decide +kernel
theorem dX5_joinToSignAhead_42 : decode cX5_joinToSignAhead 42 = .ok (.iastore, 1) := by decide +kernel
theorem dX5_joinToSignAhead_43 : decode cX5_joinToSignAhead 43 = .ok (.aload_n 0, 1) := by decide +kernel
theorem dX5_joinToSignAhead_44 : decode cX5_joinToSignAhead 44 = .ok (.dup, 1) := by decide +kernel
theorem dX5_joinToSignAhead_45 : decode cX5_joinToSignAhead 45 = .ok (.getfield 44, 3) := by decide +kernel
theorem dX5_joinToSignAhead_48 : decode cX5_joinToSignAhead 48 = .ok (.iconst 1, 1) := by decide +kernel
theorem dX5_joinToSignAhead_49 : decode cX5_joinToSignAhead 49 = .ok (.iadd, 1) := by decide +kernel
theorem dX5_joinToSignAhead_50 : decode cX5_joinToSignAhead 50 = .ok (.putfield 44, 3) := by decide +kernel
theorem dX5_joinToSignAhead_53 : decode cX5_joinToSignAhead 53 = .ok (.aload_n 0, 1) := by decide +kernel
theorem dX5_joinToSignAhead_54 : decode cX5_joinToSignAhead 54 = .ok (.getfield 34, 3) := by decide +kernel
theorem dX5_joinToSignAhead_57 : decode cX5_joinToSignAhead 57 = .ok (.iload_n 1, 1) := by decide +kernel
theorem dX5_joinToSignAhead_58 : decode cX5_joinToSignAhead 58 = .ok (.aload_n 0, 1) := by decide +kernel
theorem dX5_joinToSignAhead_59 : decode cX5_joinToSignAhead 59 = .ok (.getfield 34, 3) := by decide +kernel
theorem dX5_joinToSignAhead_62 : decode cX5_joinToSignAhead 62 = .ok (.iload_n 1, 1) := by decide +kernel
theorem dX5_joinToSignAhead_63 : decode cX5_joinToSignAhead 63 = .ok (.iconst 1, 1) := by decide +kernel
theorem dX5_joinToSignAhead_64 : decode cX5_joinToSignAhead 64 = .ok (.isub, 1) := by decide +kernel
theorem dX5_joinToSignAhead_65 : decode cX5_joinToSignAhead 65 = .ok (.iaload, 1) := by decide +kernel
theorem dX5_joinToSignAhead_66 : decode cX5_joinToSignAhead 66 = .ok (.iastore, 1) := by decide +kernel
theorem dX5_joinToSignAhead_67 : decode cX5_joinToSignAhead 67 = .ok (.return_, 1) := by decide +kernel
theorem dX5_showAlters_0 : decode cX5_showAlters 0 = .ok (.aload_n 0, 1) := by decide +kernel
theorem dX5_showAlters_1 : decode cX5_showAlters 1 = .ok (.getfield 37, 3) := by decide +kernel
theorem dX5_showAlters_4 : decode cX5_showAlters 4 = .ok (.bipush (-3), 2) := by decide +kernel
theorem dX5_showAlters_6 : decode cX5_showAlters 6 = .ok (.invokestatic 127, 3) := by decide +kernel
theorem dX5_showAlters_9 : decode cX5_showAlters 9 = .ok (.iconst 0, 1) := by decide +kernel
theorem dX5_showAlters_10 : decode cX5_showAlters 10 = .ok (.istore_n 3, 1) := by decide +kernel
theorem dX5_showAlters_11 : decode cX5_showAlters 11 = .ok (.iload_n 3, 1) := by decide +kernel
theorem dX5_showAlters_12 : decode cX5_showAlters 12 = .ok (.aload_n 0, 1) := by decide +kernel
theorem dX5_showAlters_13 : decode cX5_showAlters 13 = .ok (.getfield 40, 3) := by decide +kernel
theorem dX5_showAlters_16 : decode cX5_showAlters 16 = .ok (.if_icmp .ge 61, 3) := by decide +kernel
theorem dX5_showAlters_19 : decode cX5_showAlters 19 = .ok (.iload_n 3, 1) := by decide +kernel
theorem dX5_showAlters_20 : decode cX5_showAlters 20 = .ok (.sipush 128, 3) := by decide +kernel
theorem dX5_showAlters_23 : decode cX5_showAlters 23 = .ok (.if_icmp .ge 54, 3) := by decide +kernel
theorem dX5_showAlters_26 : decode cX5_showAlters 26 = .ok (.aload_n 0, 1) := by decide +kernel
theorem dX5_showAlters_27 : decode cX5_showAlters 27 = .ok (.getfield 9, 3) := by decide +kernel
theorem dX5_showAlters_30 : decode cX5_showAlters 30 = .ok (.iload_n 3, 1) := by decide +kernel
theorem dX5_showAlters_31 : decode cX5_showAlters 31 = .ok (.iaload, 1) := by decide +kernel
theorem dX5_showAlters_32 : decode cX5_showAlters 32 = .ok (.istore 4, 2) := by decide +kernel
theorem dX5_showAlters_34 : decode cX5_showAlters 34 = .ok (.aload_n 0, 1) := by decide +kernel
theorem dX5_showAlters_35 : decode cX5_showAlters 35 = .ok (.getfield 28, 3) := by decide +kernel
theorem dX5_showAlters_38 : decode cX5_showAlters 38 = .ok (.iload_n 3, 1) := by decide +kernel
theorem dX5_showAlters_39 : decode cX5_showAlters 39 = .ok (.aload_n 0, 1) := by decide +kernel
theorem dX5_showAlters_40 : decode cX5_showAlters 40 = .ok (.getfield 21, 3) := by decide +kernel
theorem dX5_showAlters_43 : decode cX5_showAlters 43 = .ok (.iload_n 3, 1) := by decide +kernel
theorem dX5_showAlters_44 : decode cX5_showAlters 44 = .ok (.baload, 1) := by decide +kernel
theorem dX5_showAlters_45 : decode cX5_showAlters 45 = .ok (.ifCond .eq 23, 3) := by decide +kernel
theorem dX5_showAlters_48 : decode cX5_showAlters 48 = .ok (.aload_n 0, 1) := by decide +kernel
theorem dX5_showAlters_49 : decode cX5_showAlters 49 = .ok (.aload_n 1, 1) := by decide +kernel
theorem dX5_showAlters_50 : decode cX5_showAlters 50 = .ok (.iload 4, 2) := by decide +kernel
theorem dX5_showAlters_52 : decode cX5_showAlters 52 = .ok (.invokevirtual 133, 3) := by decide +kernel
theorem dX5_showAlters_55 : decode cX5_showAlters 55 = .ok (.aload_n 1, 1) := by decide +kernel
theorem dX5_showAlters_56 : decode cX5_showAlters 56 = .ok (.iload 4, 2) := by decide +kernel
theorem dX5_showAlters_58 : decode cX5_showAlters 58 = .ok (.invokevirtual 136, 3) := by decide +kernel
theorem dX5_showAlters_61 : decode cX5_showAlters 61 = .ok (.iload_n 2, 1) := by decide +kernel
theorem dX5_showAlters_62 : decode cX5_showAlters 62 = .ok (.invokevirtual 139, 3) := by decide +kernel
theorem dX5_showAlters_65 : decode cX5_showAlters 65 = .ok (.goto 5, 3) := by decide +kernel
theorem dX5_showAlters_68 : decode cX5_showAlters 68 = .ok (.bipush (-3), 2) := by decide +kernel
theorem dX5_showAlters_70 : decode cX5_showAlters 70 = .ok (.iastore, 1) := by decide +kernel
theorem dX5_showAlters_71 : decode cX5_showAlters 71 = .ok (.iinc 3 1, 3) := by decide +kernel
theorem dX5_showAlters_74 : decode cX5_showAlters 74 = .ok (.goto (-63), 3) := by decide +kernel
theorem dX5_showAlters_77 : decode cX5_showAlters 77 = .ok (.return_, 1) := by decide +kernel
theorem dX5_showAltersAsWritten_0 : decode cX5_showAltersAsWritten 0 = .ok (.aload_n 0, 1) := by decide +kernel
theorem dX5_showAltersAsWritten_1 : decode cX5_showAltersAsWritten 1 = .ok (.getfield 37, 3) := by decide +kernel
theorem dX5_showAltersAsWritten_4 : decode cX5_showAltersAsWritten 4 = .ok (.bipush (-3), 2) := by decide +kernel
theorem dX5_showAltersAsWritten_6 : decode cX5_showAltersAsWritten 6 = .ok (.invokestatic 127, 3) := by decide +kernel
theorem dX5_showAltersAsWritten_9 : decode cX5_showAltersAsWritten 9 = .ok (.iconst 0, 1) := by decide +kernel
theorem dX5_showAltersAsWritten_10 : decode cX5_showAltersAsWritten 10 = .ok (.istore_n 3, 1) := by decide +kernel
theorem dX5_showAltersAsWritten_11 : decode cX5_showAltersAsWritten 11 = .ok (.iload_n 3, 1) := by decide +kernel
theorem dX5_showAltersAsWritten_12 : decode cX5_showAltersAsWritten 12 = .ok (.aload_n 0, 1) := by decide +kernel
theorem dX5_showAltersAsWritten_13 : decode cX5_showAltersAsWritten 13 = .ok (.getfield 40, 3) := by decide +kernel
theorem dX5_showAltersAsWritten_16 : decode cX5_showAltersAsWritten 16 = .ok (.if_icmp .ge 61, 3) := by decide +kernel
theorem dX5_showAltersAsWritten_19 : decode cX5_showAltersAsWritten 19 = .ok (.iload_n 3, 1) := by decide +kernel
theorem dX5_showAltersAsWritten_20 : decode cX5_showAltersAsWritten 20 = .ok (.sipush 128, 3) := by decide +kernel
theorem dX5_showAltersAsWritten_23 : decode cX5_showAltersAsWritten 23 = .ok (.if_icmp .ge 54, 3) := by decide +kernel
theorem dX5_showAltersAsWritten_26 : decode cX5_showAltersAsWritten 26 = .ok (.aload_n 0, 1) := by decide +kernel
theorem dX5_showAltersAsWritten_27 : decode cX5_showAltersAsWritten 27 = .ok (.getfield 9, 3) := by decide +kernel
theorem dX5_showAltersAsWritten_30 : decode cX5_showAltersAsWritten 30 = .ok (.iload_n 3, 1) := by decide +kernel
theorem dX5_showAltersAsWritten_31 : decode cX5_showAltersAsWritten 31 = .ok (.iaload, 1) := by decide +kernel
theorem dX5_showAltersAsWritten_32 : decode cX5_showAltersAsWritten 32 = .ok (.istore 4, 2) := by decide +kernel
theorem dX5_showAltersAsWritten_34 : decode cX5_showAltersAsWritten 34 = .ok (.aload_n 0, 1) := by decide +kernel
theorem dX5_showAltersAsWritten_35 : decode cX5_showAltersAsWritten 35 = .ok (.getfield 31, 3) := by decide +kernel
theorem dX5_showAltersAsWritten_38 : decode cX5_showAltersAsWritten 38 = .ok (.iload_n 3, 1) := by decide +kernel
theorem dX5_showAltersAsWritten_39 : decode cX5_showAltersAsWritten 39 = .ok (.aload_n 0, 1) := by decide +kernel
theorem dX5_showAltersAsWritten_40 : decode cX5_showAltersAsWritten 40 = .ok (.getfield 21, 3) := by decide +kernel
theorem dX5_showAltersAsWritten_43 : decode cX5_showAltersAsWritten 43 = .ok (.iload_n 3, 1) := by decide +kernel
theorem dX5_showAltersAsWritten_44 : decode cX5_showAltersAsWritten 44 = .ok (.baload, 1) := by decide +kernel
theorem dX5_showAltersAsWritten_45 : decode cX5_showAltersAsWritten 45 = .ok (.ifCond .eq 23, 3) := by decide +kernel
theorem dX5_showAltersAsWritten_48 : decode cX5_showAltersAsWritten 48 = .ok (.aload_n 0, 1) := by decide +kernel
theorem dX5_showAltersAsWritten_49 : decode cX5_showAltersAsWritten 49 = .ok (.aload_n 1, 1) := by decide +kernel
theorem dX5_showAltersAsWritten_50 : decode cX5_showAltersAsWritten 50 = .ok (.iload 4, 2) := by decide +kernel
theorem dX5_showAltersAsWritten_52 : decode cX5_showAltersAsWritten 52 = .ok (.invokevirtual 143, 3) := by decide +kernel
theorem dX5_showAltersAsWritten_55 : decode cX5_showAltersAsWritten 55 = .ok (.aload_n 1, 1) := by decide +kernel
theorem dX5_showAltersAsWritten_56 : decode cX5_showAltersAsWritten 56 = .ok (.iload 4, 2) := by decide +kernel
theorem dX5_showAltersAsWritten_58 : decode cX5_showAltersAsWritten 58 = .ok (.invokevirtual 146, 3) := by decide +kernel
theorem dX5_showAltersAsWritten_61 : decode cX5_showAltersAsWritten 61 = .ok (.iload_n 2, 1) := by decide +kernel
theorem dX5_showAltersAsWritten_62 : decode cX5_showAltersAsWritten 62 = .ok (.invokevirtual 139, 3) := by decide +kernel
theorem dX5_showAltersAsWritten_65 : decode cX5_showAltersAsWritten 65 = .ok (.goto 5, 3) := by decide +kernel
theorem dX5_showAltersAsWritten_68 : decode cX5_showAltersAsWritten 68 = .ok (.bipush (-3), 2) := by decide +kernel
theorem dX5_showAltersAsWritten_70 : decode cX5_showAltersAsWritten 70 = .ok (.iastore, 1) := by decide +kernel
theorem dX5_showAltersAsWritten_71 : decode cX5_showAltersAsWritten 71 = .ok (.iinc 3 1, 3) := by decide +kernel
theorem dX5_showAltersAsWritten_74 : decode cX5_showAltersAsWritten 74 = .ok (.goto (-63), 3) := by decide +kernel
theorem dX5_showAltersAsWritten_77 : decode cX5_showAltersAsWritten 77 = .ok (.return_, 1) := by decide +kernel
theorem dX5_alterToShow_0 : decode cX5_alterToShow 0 = .ok (.iload_n 1, 1) := by decide +kernel
theorem dX5_alterToShow_1 : decode cX5_alterToShow 1 = .ok (.iconst 1, 1) := by decide +kernel
theorem dX5_alterToShow_2 : decode cX5_alterToShow 2 = .ok (.if_icmp .lt 12, 3) := by decide +kernel
theorem dX5_alterToShow_5 : decode cX5_alterToShow 5 = .ok (.iload_n 1, 1) := by decide +kernel
theorem dX5_alterToShow_6 : decode cX5_alterToShow 6 = .ok (.aload_n 0, 1) := by decide +kernel
theorem dX5_alterToShow_7 : decode cX5_alterToShow 7 = .ok (.getfield 37, 3) := by decide +kernel
theorem dX5_alterToShow_10 : decode cX5_alterToShow 10 = .ok (.arraylength, 1) := by decide +kernel
theorem dX5_alterToShow_11 : decode cX5_alterToShow 11 = .ok (.if_icmp .lt 6, 3) := by decide +kernel
theorem dX5_alterToShow_14 : decode cX5_alterToShow 14 = .ok (.bipush (-3), 2) := by decide +kernel
theorem dX5_alterToShow_16 : decode cX5_alterToShow 16 = .ok (.ireturn, 1) := by decide +kernel
theorem dX5_alterToShow_17 : decode cX5_alterToShow 17 = .ok (.aload_n 0, 1) := by decide +kernel
theorem dX5_alterToShow_18 : decode cX5_alterToShow 18 = .ok (.getfield 37, 3) := by decide +kernel
theorem dX5_alterToShow_21 : decode cX5_alterToShow 21 = .ok (.iload_n 1, 1) := by decide +kernel
theorem dX5_alterToShow_22 : decode cX5_alterToShow 22 = .ok (.iaload, 1) := by decide +kernel
theorem dX5_alterToShow_23 : decode cX5_alterToShow 23 = .ok (.istore 4, 2) := by decide +kernel
theorem dX5_alterToShow_25 : decode cX5_alterToShow 25 = .ok (.iload 4, 2) := by decide +kernel
theorem dX5_alterToShow_27 : decode cX5_alterToShow 27 = .ok (.bipush (-3), 2) := by decide +kernel
theorem dX5_alterToShow_29 : decode cX5_alterToShow 29 = .ok (.if_icmp .ne 13, 3) := by decide +kernel
theorem dX5_alterToShow_32 : decode cX5_alterToShow 32 = .ok (.iload_n 3, 1) := by decide +kernel
theorem dX5_alterToShow_33 : decode cX5_alterToShow 33 = .ok (.iload_n 1, 1) := by decide +kernel
theorem dX5_alterToShow_34 : decode cX5_alterToShow 34 = .ok (.bipush 7, 2) := by decide +kernel
theorem dX5_alterToShow_36 : decode cX5_alterToShow 36 = .ok (.irem, 1) := by decide +kernel
theorem dX5_alterToShow_37 : decode cX5_alterToShow 37 = .ok (.invokestatic 149, 3) := by decide +kernel
theorem dX5_alterToShow_40 : decode cX5_alterToShow 40 = .ok (.istore 4, 2) := by decide +kernel
theorem dX5_alterToShow_42 : decode cX5_alterToShow 42 = .ok (.iload_n 2, 1) := by decide +kernel
theorem dX5_alterToShow_43 : decode cX5_alterToShow 43 = .ok (.iload 4, 2) := by decide +kernel
theorem dX5_alterToShow_45 : decode cX5_alterToShow 45 = .ok (.if_icmp .ne 6, 3) := by decide +kernel
theorem dX5_alterToShow_48 : decode cX5_alterToShow 48 = .ok (.bipush (-3), 2) := by decide +kernel
theorem dX5_alterToShow_50 : decode cX5_alterToShow 50 = .ok (.ireturn, 1) := by decide +kernel
theorem dX5_alterToShow_51 : decode cX5_alterToShow 51 = .ok (.aload_n 0, 1) := by decide +kernel
theorem dX5_alterToShow_52 : decode cX5_alterToShow 52 = .ok (.getfield 37, 3) := by decide +kernel
theorem dX5_alterToShow_55 : decode cX5_alterToShow 55 = .ok (.iload_n 1, 1) := by decide +kernel
theorem dX5_alterToShow_56 : decode cX5_alterToShow 56 = .ok (.iload_n 2, 1) := by decide +kernel
theorem dX5_alterToShow_57 : decode cX5_alterToShow 57 = .ok (.iastore, 1) := by decide +kernel
theorem dX5_alterToShow_58 : decode cX5_alterToShow 58 = .ok (.iload_n 2, 1) := by decide +kernel
theorem dX5_alterToShow_59 : decode cX5_alterToShow 59 = .ok (.ireturn, 1) := by decide +kernel
theorem dX6_init_0 : decode cX6_init 0 = .ok (.aload_n 0, 1) := by decide +kernel
theorem dX6_init_1 : decode cX6_init 1 = .ok (.invokespecial 3, 3) := by decide +kernel
theorem dX6_init_4 : decode cX6_init 4 = .ok (.aload_n 0, 1) := by decide +kernel
theorem dX6_init_5 : decode cX6_init 5 = .ok (.sipush 512, 3) := by decide +kernel
theorem dX6_init_8 : decode cX6_init 8 = .ok (.newarray .int, 2) := by decide +kernel
theorem dX6_init_10 : decode cX6_init 10 = .ok (.putfield 9, 3) := by decide +kernel
theorem dX6_init_13 : decode cX6_init 13 = .ok (.aload_n 0, 1) := by decide +kernel
theorem dX6_init_14 : decode cX6_init 14 = .ok (.sipush 512, 3) := by decide +kernel
theorem dX6_init_17 : decode cX6_init 17 = .ok (.newarray .int, 2) := by decide +kernel
theorem dX6_init_19 : decode cX6_init 19 = .ok (.putfield 15, 3) := by decide +kernel
theorem dX6_init_22 : decode cX6_init 22 = .ok (.aload_n 0, 1) := by decide +kernel
theorem dX6_init_23 : decode cX6_init 23 = .ok (.sipush 512, 3) := by decide +kernel
theorem dX6_init_26 : decode cX6_init 26 = .ok (.newarray .int, 2) := by decide +kernel
theorem dX6_init_28 : decode cX6_init 28 = .ok (.putfield 18, 3) := by decide +kernel
theorem dX6_init_31 : decode cX6_init 31 = .ok (.aload_n 0, 1) := by decide +kernel
theorem dX6_init_32 : decode cX6_init 32 = .ok (.sipush 512, 3) := by decide +kernel
theorem dX6_init_35 : decode cX6_init 35 = .ok (.newarray .int, 2) := by decide +kernel
theorem dX6_init_37 : decode cX6_init 37 = .ok (.putfield 21, 3) := by decide +kernel
theorem dX6_init_40 : decode cX6_init 40 = .ok (.aload_n 0, 1) := by decide +kernel
theorem dX6_init_41 : decode cX6_init 41 = .ok (.sipush 512, 3) := by decide +kernel
theorem dX6_init_44 : decode cX6_init 44 = .ok (.newarray .int, 2) := by decide +kernel
theorem dX6_init_46 : decode cX6_init 46 = .ok (.putfield 24, 3) := by decide +kernel
theorem dX6_init_49 : decode cX6_init 49 = .ok (.aload_n 0, 1) := by decide +kernel
theorem dX6_init_50 : decode cX6_init 50 = .ok (.sipush 512, 3) := by decide +kernel
theorem dX6_init_53 : decode cX6_init 53 = .ok (.newarray .int, 2) := by decide +kernel
theorem dX6_init_55 : decode cX6_init 55 = .ok (.putfield 27, 3) := by decide +kernel
theorem dX6_init_58 : decode cX6_init 58 = .ok (.aload_n 0, 1) := by decide +kernel
theorem dX6_init_59 : decode cX6_init 59 = .ok (.sipush 512, 3) := by decide +kernel
theorem dX6_init_62 : decode cX6_init 62 = .ok (.newarray .int, 2) := by decide +kernel
theorem dX6_init_64 : decode cX6_init 64 = .ok (.putfield 30, 3) := by decide +kernel
theorem dX6_init_67 : decode cX6_init 67 = .ok (.aload_n 0, 1) := by decide +kernel
theorem dX6_init_68 : decode cX6_init 68 = .ok (.iconst 1, 1) := by decide +kernel
theorem dX6_init_69 : decode cX6_init 69 = .ok (.putfield 33, 3) := by decide +kernel
theorem dX6_init_72 : decode cX6_init 72 = .ok (.aload_n 0, 1) := by decide +kernel
theorem dX6_init_73 : decode cX6_init 73 = .ok (.bipush 62, 2) := by decide +kernel
theorem dX6_init_75 : decode cX6_init 75 = .ok (.putfield 37, 3) := by decide +kernel
theorem dX6_init_78 : decode cX6_init 78 = .ok (.return_, 1) := by decide +kernel
theorem dX6_size_0 : decode cX6_size 0 = .ok (.aload_n 0, 1) := by decide +kernel
theorem dX6_size_1 : decode cX6_size 1 = .ok (.getfield 40, 3) := by decide +kernel
theorem dX6_size_4 : decode cX6_size 4 = .ok (.ireturn, 1) := by decide +kernel
theorem dX6_end_0 : decode cX6_end 0 = .ok (.aload_n 0, 1) := by decide +kernel
theorem dX6_end_1 : decode cX6_end 1 = .ok (.getfield 43, 3) := by decide +kernel
theorem dX6_end_4 : decode cX6_end 4 = .ok (.ireturn, 1) := by decide +kernel
theorem dX6_has_0 : decode cX6_has 0 = .ok (.iload_n 1, 1) := by decide +kernel
theorem dX6_has_1 : decode cX6_has 1 = .ok (.ifCond .lt 22, 3) := by decide +kernel
theorem dX6_has_4 : decode cX6_has 4 = .ok (.iload_n 1, 1) := by decide +kernel
theorem dX6_has_5 : decode cX6_has 5 = .ok (.aload_n 0, 1) := by decide +kernel
theorem dX6_has_6 : decode cX6_has 6 = .ok (.getfield 40, 3) := by decide +kernel
theorem dX6_has_9 : decode cX6_has 9 = .ok (.if_icmp .ge 14, 3) := by decide +kernel
theorem dX6_has_12 : decode cX6_has 12 = .ok (.iload_n 1, 1) := by decide +kernel
theorem dX6_has_13 : decode cX6_has 13 = .ok (.sipush 512, 3) := by decide +kernel
theorem dX6_has_16 : decode cX6_has 16 = .ok (.if_icmp .ge 7, 3) := by decide +kernel
theorem dX6_has_19 : decode cX6_has 19 = .ok (.iconst 1, 1) := by decide +kernel
theorem dX6_has_20 : decode cX6_has 20 = .ok (.goto 4, 3) := by decide +kernel
theorem dX6_has_23 : decode cX6_has 23 = .ok (.iconst 0, 1) := by decide +kernel
theorem dX6_has_24 : decode cX6_has 24 = .ok (.ireturn, 1) := by decide +kernel
theorem dX6_append_0 : decode cX6_append 0 = .ok (.aload_n 0, 1) := by decide +kernel
theorem dX6_append_1 : decode cX6_append 1 = .ok (.getfield 40, 3) := by decide +kernel
theorem dX6_append_4 : decode cX6_append 4 = .ok (.istore 4, 2) := by decide +kernel
theorem dX6_append_6 : decode cX6_append 6 = .ok (.iload 4, 2) := by decide +kernel
theorem dX6_append_8 : decode cX6_append 8 = .ok (.ifCond .lt 11, 3) := by decide +kernel
theorem dX6_append_11 : decode cX6_append 11 = .ok (.iload 4, 2) := by decide +kernel
theorem dX6_append_13 : decode cX6_append 13 = .ok (.sipush 512, 3) := by decide +kernel
theorem dX6_append_16 : decode cX6_append 16 = .ok (.if_icmp .lt 5, 3) := by decide +kernel
theorem dX6_append_19 : decode cX6_append 19 = .ok (.iconst (-1), 1) := by decide +kernel
theorem dX6_append_20 : decode cX6_append 20 = .ok (.ireturn, 1) := by decide +kernel
theorem dX6_append_21 : decode cX6_append 21 = .ok (.aload_n 0, 1) := by decide +kernel
theorem dX6_append_22 : decode cX6_append 22 = .ok (.getfield 21, 3) := by decide +kernel
theorem dX6_append_25 : decode cX6_append 25 = .ok (.iload 4, 2) := by decide +kernel
theorem dX6_append_27 : decode cX6_append 27 = .ok (.aload_n 0, 1) := by decide +kernel
theorem dX6_append_28 : decode cX6_append 28 = .ok (.getfield 43, 3) := by decide +kernel
theorem dX6_append_31 : decode cX6_append 31 = .ok (.iastore, 1) := by decide +kernel
theorem dX6_append_32 : decode cX6_append 32 = .ok (.aload_n 0, 1) := by decide +kernel
theorem dX6_append_33 : decode cX6_append 33 = .ok (.getfield 24, 3) := by decide +kernel
theorem dX6_append_36 : decode cX6_append 36 = .ok (.iload 4, 2) := by decide +kernel
theorem dX6_append_38 : decode cX6_append 38 = .ok (.iload_n 3, 1) := by decide +kernel
theorem dX6_append_39 : decode cX6_append 39 = .ok (.iastore, 1) := by decide +kernel
theorem dX6_append_40 : decode cX6_append 40 = .ok (.aload_n 0, 1) := by decide +kernel
theorem dX6_append_41 : decode cX6_append 41 = .ok (.iload 4, 2) := by decide +kernel
theorem dX6_append_43 : decode cX6_append 43 = .ok (.iconst 1, 1) := by decide +kernel
theorem dX6_append_44 : decode cX6_append 44 = .ok (.iadd, 1) := by decide +kernel
theorem dX6_append_45 : decode cX6_append 45 = .ok (.putfield 40, 3) := by decide +kernel
theorem dX6_append_48 : decode cX6_append 48 = .ok (.aload_n 0, 1) := by decide +kernel
theorem dX6_append_49 : decode cX6_append 49 = .ok (.dup, 1) := by decide +kernel
theorem dX6_append_50 : decode cX6_append 50 = .ok (.getfield 43, 3) := by decide +kernel
theorem dX6_append_53 : decode cX6_append 53 = .ok (.iload_n 3, 1) := by decide +kernel
theorem dX6_append_54 : decode cX6_append 54 = .ok (.iadd, 1) := by decide +kernel
theorem dX6_append_55 : decode cX6_append 55 = .ok (.putfield 43, 3) := by decide +kernel
theorem dX6_append_58 : decode cX6_append 58 = .ok (.aload_n 0, 1) := by decide +kernel
theorem dX6_append_59 : decode cX6_append 59 = .ok (.iload 4, 2) := by decide +kernel
theorem dX6_append_61 : decode cX6_append 61 = .ok (.iload_n 1, 1) := by decide +kernel
theorem dX6_append_62 : decode cX6_append 62 = .ok (.iload_n 2, 1) := by decide +kernel
theorem dX6_append_63 : decode cX6_append 63 = .ok (.invokevirtual 46, 3) := by decide +kernel
theorem dX6_append_66 : decode cX6_append 66 = .ok (.iload 4, 2) := by decide +kernel
theorem dX6_append_68 : decode cX6_append 68 = .ok (.ireturn, 1) := by decide +kernel
theorem dX6_removeLast_0 : decode cX6_removeLast 0 = .ok (.aload_n 0, 1) := by decide +kernel
theorem dX6_removeLast_1 : decode cX6_removeLast 1 = .ok (.getfield 40, 3) := by decide +kernel
theorem dX6_removeLast_4 : decode cX6_removeLast 4 = .ok (.iconst 1, 1) := by decide +kernel
theorem dX6_removeLast_5 : decode cX6_removeLast 5 = .ok (.isub, 1) := by decide +kernel
theorem dX6_removeLast_6 : decode cX6_removeLast 6 = .ok (.istore_n 1, 1) := by decide +kernel
theorem dX6_removeLast_7 : decode cX6_removeLast 7 = .ok (.aload_n 0, 1) := by decide +kernel
theorem dX6_removeLast_8 : decode cX6_removeLast 8 = .ok (.iload_n 1, 1) := by decide +kernel
theorem dX6_removeLast_9 : decode cX6_removeLast 9 = .ok (.invokevirtual 50, 3) := by decide +kernel
theorem dX6_removeLast_12 : decode cX6_removeLast 12 = .ok (.ifCond .ne 5, 3) := by decide +kernel
theorem dX6_removeLast_15 : decode cX6_removeLast 15 = .ok (.iconst 0, 1) := by decide +kernel
theorem dX6_removeLast_16 : decode cX6_removeLast 16 = .ok (.ireturn, 1) := by decide +kernel
theorem dX6_removeLast_17 : decode cX6_removeLast 17 = .ok (.aload_n 0, 1) := by decide +kernel
theorem dX6_removeLast_18 : decode cX6_removeLast 18 = .ok (.iload_n 1, 1) := by decide +kernel
theorem dX6_removeLast_19 : decode cX6_removeLast 19 = .ok (.putfield 40, 3) := by decide +kernel
theorem dX6_removeLast_22 : decode cX6_removeLast 22 = .ok (.aload_n 0, 1) := by decide +kernel
theorem dX6_removeLast_23 : decode cX6_removeLast 23 = .ok (.aload_n 0, 1) := by decide +kernel
theorem dX6_removeLast_24 : decode cX6_removeLast 24 = .ok (.getfield 21, 3) := by decide +kernel
theorem dX6_removeLast_27 : decode cX6_removeLast 27 = .ok (.iload_n 1, 1) := by decide +kernel
theorem dX6_removeLast_28 : decode cX6_removeLast 28 = .ok (.iaload, 1) := by decide +kernel
theorem dX6_removeLast_29 : decode cX6_removeLast 29 = .ok (.putfield 43, 3) := by decide +kernel
theorem dX6_removeLast_32 : decode cX6_removeLast 32 = .ok (.aload_n 0, 1) := by decide +kernel
theorem dX6_removeLast_33 : decode cX6_removeLast 33 = .ok (.getfield 24, 3) := by decide +kernel
theorem dX6_removeLast_36 : decode cX6_removeLast 36 = .ok (.iload_n 1, 1) := by decide +kernel
theorem dX6_removeLast_37 : decode cX6_removeLast 37 = .ok (.iaload, 1) := by decide +kernel
theorem dX6_removeLast_38 : decode cX6_removeLast 38 = .ok (.ireturn, 1) := by decide +kernel
theorem dX6_givePitch_0 : decode cX6_givePitch 0 = .ok (.aload_n 0, 1) := by decide +kernel
theorem dX6_givePitch_1 : decode cX6_givePitch 1 = .ok (.iload_n 1, 1) := by decide +kernel
theorem dX6_givePitch_2 : decode cX6_givePitch 2 = .ok (.invokevirtual 50, 3) := by decide +kernel
theorem dX6_givePitch_5 : decode cX6_givePitch 5 = .ok (.ifCond .ne 4, 3) := by decide +kernel
theorem dX6_givePitch_8 : decode cX6_givePitch 8 = .ok (.return_, 1) := by decide +kernel
theorem dX6_givePitch_9 : decode cX6_givePitch 9 = .ok (.aload_n 0, 1) := by decide +kernel
