theorem dX6_givePitch_10 : decode cX6_givePitch 10 = .ok (.getfield 9, 3) := by decide +kernel
theorem dX6_givePitch_13 : decode cX6_givePitch 13 = .ok (.iload_n 1, 1) := by decide +kernel
theorem dX6_givePitch_14 : decode cX6_givePitch 14 = .ok (.iload_n 2, 1) := by decide +kernel
theorem dX6_givePitch_15 : decode cX6_givePitch 15 = .ok (.iastore, 1) := by decide +kernel
theorem dX6_givePitch_16 : decode cX6_givePitch 16 = .ok (.aload_n 0, 1) := by decide +kernel
theorem dX6_givePitch_17 : decode cX6_givePitch 17 = .ok (.getfield 15, 3) := by decide +kernel
theorem dX6_givePitch_20 : decode cX6_givePitch 20 = .ok (.iload_n 1, 1) := by decide +kernel
theorem dX6_givePitch_21 : decode cX6_givePitch 21 = .ok (.iload_n 3, 1) := by decide +kernel
theorem dX6_givePitch_22 : decode cX6_givePitch 22 = .ok (.iastore, 1) := by decide +kernel
theorem dX6_givePitch_23 : decode cX6_givePitch 23 = .ok (.aload_n 0, 1) := by decide +kernel
theorem dX6_givePitch_24 : decode cX6_givePitch 24 = .ok (.getfield 18, 3) := by decide +kernel
theorem dX6_givePitch_27 : decode cX6_givePitch 27 = .ok (.iload_n 1, 1) := by decide +kernel
theorem dX6_givePitch_28 : decode cX6_givePitch 28 = .ok (.iload_n 2, 1) := by decide +kernel
theorem dX6_givePitch_29 : decode cX6_givePitch 29 = .ok (.ifCond .ne 7, 3) := by decide +kernel
theorem dX6_givePitch_32 : decode cX6_givePitch 32 = .ok (.iconst (-1), 1) := by decide +kernel
theorem dX6_givePitch_33 : decode cX6_givePitch 33 = .ok (.goto 9, 3) := by decide +kernel
theorem dX6_givePitch_36 : decode cX6_givePitch 36 = .ok (.iload_n 2, 1) := by decide +kernel
theorem dX6_givePitch_37 : decode cX6_givePitch 37 = .ok (.invokestatic 54, 3) := by decide +kernel
theorem dX6_givePitch_40 : decode cX6_givePitch 40 = .ok (.iload_n 3, 1) := by decide +kernel
theorem dX6_givePitch_41 : decode cX6_givePitch 41 = .ok (.iadd, 1) := by decide +kernel
theorem dX6_givePitch_42 : decode cX6_givePitch 42 = .ok (.iastore, 1) := by decide +kernel
theorem dX6_givePitch_43 : decode cX6_givePitch 43 = .ok (.aload_n 0, 1) := by decide +kernel
theorem dX6_givePitch_44 : decode cX6_givePitch 44 = .ok (.iload_n 1, 1) := by decide +kernel
theorem dX6_givePitch_45 : decode cX6_givePitch 45 = .ok (.invokevirtual 60, 3) := by decide +kernel
theorem dX6_givePitch_48 : decode cX6_givePitch 48 = .ok (.return_, 1) := by decide +kernel
theorem dX6_writeForInstrument_0 : decode cX6_writeForInstrument 0 = .ok (.aload_n 0, 1) := by decide +kernel
theorem dX6_writeForInstrument_1 : decode cX6_writeForInstrument 1 = .ok (.iload_n 1, 1) := by decide +kernel
theorem dX6_writeForInstrument_2 : decode cX6_writeForInstrument 2 = .ok (.invokevirtual 50, 3) := by decide +kernel
theorem dX6_writeForInstrument_5 : decode cX6_writeForInstrument 5 = .ok (.ifCond .ne 4, 3) := by decide +kernel
theorem dX6_writeForInstrument_8 : decode cX6_writeForInstrument 8 = .ok (.return_, 1) := by decide +kernel
theorem dX6_writeForInstrument_9 : decode cX6_writeForInstrument 9 = .ok (.aload_n 0, 1) := by decide +kernel
theorem dX6_writeForInstrument_10 : decode cX6_writeForInstrument 10 = .ok (.getfield 9, 3) := by decide +kernel
theorem dX6_writeForInstrument_13 : decode cX6_writeForInstrument 13 = .ok (.iload_n 1, 1) := by decide +kernel
theorem dX6_writeForInstrument_14 : decode cX6_writeForInstrument 14 = .ok (.iaload, 1) := by decide +kernel
theorem dX6_writeForInstrument_15 : decode cX6_writeForInstrument 15 = .ok (.iconst 4, 1) := by decide +kernel
theorem dX6_writeForInstrument_16 : decode cX6_writeForInstrument 16 = .ok (.aload_n 0, 1) := by decide +kernel
theorem dX6_writeForInstrument_17 : decode cX6_writeForInstrument 17 = .ok (.getfield 64, 3) := by decide +kernel
theorem dX6_writeForInstrument_20 : decode cX6_writeForInstrument 20 = .ok (.imul, 1) := by decide +kernel
theorem dX6_writeForInstrument_21 : decode cX6_writeForInstrument 21 = .ok (.iadd, 1) := by decide +kernel
theorem dX6_writeForInstrument_22 : decode cX6_writeForInstrument 22 = .ok (.bipush 7, 2) := by decide +kernel
theorem dX6_writeForInstrument_24 : decode cX6_writeForInstrument 24 = .ok (.aload_n 0, 1) := by decide +kernel
theorem dX6_writeForInstrument_25 : decode cX6_writeForInstrument 25 = .ok (.getfield 67, 3) := by decide +kernel
theorem dX6_writeForInstrument_28 : decode cX6_writeForInstrument 28 = .ok (.imul, 1) := by decide +kernel
theorem dX6_writeForInstrument_29 : decode cX6_writeForInstrument 29 = .ok (.iadd, 1) := by decide +kernel
theorem dX6_writeForInstrument_30 : decode cX6_writeForInstrument 30 = .ok (.istore_n 2, 1) := by decide +kernel
theorem dX6_writeForInstrument_31 : decode cX6_writeForInstrument 31 = .ok (.aload_n 0, 1) := by decide +kernel
theorem dX6_writeForInstrument_32 : decode cX6_writeForInstrument 32 = .ok (.getfield 18, 3) := by decide +kernel
theorem dX6_writeForInstrument_35 : decode cX6_writeForInstrument 35 = .ok (.iload_n 1, 1) := by decide +kernel
theorem dX6_writeForInstrument_36 : decode cX6_writeForInstrument 36 = .ok (.iaload, 1) := by decide +kernel
theorem dX6_writeForInstrument_37 : decode cX6_writeForInstrument 37 = .ok (.bipush 7, 2) := by decide +kernel
theorem dX6_writeForInstrument_39 : decode cX6_writeForInstrument 39 = .ok (.aload_n 0, 1) := by decide +kernel
theorem dX6_writeForInstrument_40 : decode cX6_writeForInstrument 40 = .ok (.getfield 64, 3) := by decide +kernel
theorem dX6_writeForInstrument_43 : decode cX6_writeForInstrument 43 = .ok (.imul, 1) := by decide +kernel
theorem dX6_writeForInstrument_44 : decode cX6_writeForInstrument 44 = .ok (.iadd, 1) := by decide +kernel
theorem dX6_writeForInstrument_45 : decode cX6_writeForInstrument 45 = .ok (.bipush 12, 2) := by decide +kernel
theorem dX6_writeForInstrument_47 : decode cX6_writeForInstrument 47 = .ok (.aload_n 0, 1) := by decide +kernel
theorem dX6_writeForInstrument_48 : decode cX6_writeForInstrument 48 = .ok (.getfield 67, 3) := by decide +kernel
theorem dX6_writeForInstrument_51 : decode cX6_writeForInstrument 51 = .ok (.imul, 1) := by decide +kernel
theorem dX6_writeForInstrument_52 : decode cX6_writeForInstrument 52 = .ok (.iadd, 1) := by decide +kernel
theorem dX6_writeForInstrument_53 : decode cX6_writeForInstrument 53 = .ok (.iload_n 2, 1) := by decide +kernel
theorem dX6_writeForInstrument_54 : decode cX6_writeForInstrument 54 = .ok (.invokestatic 54, 3) := by decide +kernel
theorem dX6_writeForInstrument_57 : decode cX6_writeForInstrument 57 = .ok (.isub, 1) := by decide +kernel
theorem dX6_writeForInstrument_58 : decode cX6_writeForInstrument 58 = .ok (.istore_n 3, 1) := by decide +kernel
theorem dX6_writeForInstrument_59 : decode cX6_writeForInstrument 59 = .ok (.aload_n 0, 1) := by decide +kernel
theorem dX6_writeForInstrument_60 : decode cX6_writeForInstrument 60 = .ok (.getfield 9, 3) := by decide +kernel
theorem dX6_writeForInstrument_63 : decode cX6_writeForInstrument 63 = .ok (.iload_n 1, 1) := by decide +kernel
theorem dX6_writeForInstrument_64 : decode cX6_writeForInstrument 64 = .ok (.iaload, 1) := by decide +kernel
theorem dX6_writeForInstrument_65 : decode cX6_writeForInstrument 65 = .ok (.ifCond .eq 15, 3) := by decide +kernel
theorem dX6_writeForInstrument_68 : decode cX6_writeForInstrument 68 = .ok (.iload_n 2, 1) := by decide +kernel
theorem dX6_writeForInstrument_69 : decode cX6_writeForInstrument 69 = .ok (.iload_n 3, 1) := by decide +kernel
theorem dX6_writeForInstrument_70 : decode cX6_writeForInstrument 70 = .ok (.invokestatic 70, 3) := by decide +kernel
theorem dX6_writeForInstrument_73 : decode cX6_writeForInstrument 73 = .ok (.ifCond .eq 7, 3) := by decide +kernel
theorem dX6_writeForInstrument_76 : decode cX6_writeForInstrument 76 = .ok (.iconst 1, 1) := by decide +kernel
theorem dX6_writeForInstrument_77 : decode cX6_writeForInstrument 77 = .ok (.goto 4, 3) := by decide +kernel
theorem dX6_writeForInstrument_80 : decode cX6_writeForInstrument 80 = .ok (.iconst 0, 1) := by decide +kernel
theorem dX6_writeForInstrument_81 : decode cX6_writeForInstrument 81 = .ok (.istore 4, 2) := by decide +kernel
theorem dX6_writeForInstrument_83 : decode cX6_writeForInstrument 83 = .ok (.aload_n 0, 1) := by decide +kernel
theorem dX6_writeForInstrument_84 : decode cX6_writeForInstrument 84 = .ok (.getfield 27, 3) := by decide +kernel
theorem dX6_writeForInstrument_87 : decode cX6_writeForInstrument 87 = .ok (.iload_n 1, 1) := by decide +kernel
theorem dX6_writeForInstrument_88 : decode cX6_writeForInstrument 88 = .ok (.iload 4, 2) := by decide +kernel
theorem dX6_writeForInstrument_90 : decode cX6_writeForInstrument 90 = .ok (.ifCond .eq 7, 3) := by decide +kernel
theorem dX6_writeForInstrument_93 : decode cX6_writeForInstrument 93 = .ok (.iload_n 2, 1) := by decide +kernel
theorem dX6_writeForInstrument_94 : decode cX6_writeForInstrument 94 = .ok (.goto 4, 3) := by decide +kernel
theorem dX6_writeForInstrument_97 : decode cX6_writeForInstrument 97 = .ok (.iconst (-1), 1) := by decide +kernel
theorem dX6_writeForInstrument_98 : decode cX6_writeForInstrument 98 = .ok (.iastore, 1) := by decide +kernel
theorem dX6_writeForInstrument_99 : decode cX6_writeForInstrument 99 = .ok (.aload_n 0, 1) := by decide +kernel
theorem dX6_writeForInstrument_100 : decode cX6_writeForInstrument 100 = .ok (.getfield 30, 3) := by decide +kernel
theorem dX6_writeForInstrument_103 : decode cX6_writeForInstrument 103 = .ok (.iload_n 1, 1) := by decide +kernel
theorem dX6_writeForInstrument_104 : decode cX6_writeForInstrument 104 = .ok (.iload 4, 2) := by decide +kernel
theorem dX6_writeForInstrument_106 : decode cX6_writeForInstrument 106 = .ok (.ifCond .eq 7, 3) := by decide +kernel
theorem dX6_writeForInstrument_109 : decode cX6_writeForInstrument 109 = .ok (.iload_n 3, 1) := by decide +kernel
theorem dX6_writeForInstrument_110 : decode cX6_writeForInstrument 110 = .ok (.goto 5, 3) := by decide +kernel
theorem dX6_writeForInstrument_113 : decode cX6_writeForInstrument 113 = .ok (.bipush (-3), 2) := by decide +kernel
theorem dX6_writeForInstrument_115 : decode cX6_writeForInstrument 115 = .ok (.iastore, 1) := by decide +kernel
theorem dX6_writeForInstrument_116 : decode cX6_writeForInstrument 116 = .ok (.return_, 1) := by decide +kernel
theorem dX6_changeRange_0 : decode cX6_changeRange 0 = .ok (.aload_n 0, 1) := by decide +kernel
theorem dX6_changeRange_1 : decode cX6_changeRange 1 = .ok (.iload_n 1, 1) := by decide +kernel
theorem dX6_changeRange_2 : decode cX6_changeRange 2 = .ok (.putfield 33, 3) := by decide +kernel
theorem dX6_changeRange_5 : decode cX6_changeRange 5 = .ok (.aload_n 0, 1) := by decide +kernel
theorem dX6_changeRange_6 : decode cX6_changeRange 6 = .ok (.iload_n 2, 1) := by decide +kernel
theorem dX6_changeRange_7 : decode cX6_changeRange 7 = .ok (.putfield 37, 3) := by decide +kernel
theorem dX6_changeRange_10 : decode cX6_changeRange 10 = .ok (.return_, 1) := by decide +kernel
theorem dX6_changeShift_0 : decode cX6_changeShift 0 = .ok (.aload_n 0, 1) := by decide +kernel
theorem dX6_changeShift_1 : decode cX6_changeShift 1 = .ok (.iload_n 1, 1) := by decide +kernel
theorem dX6_changeShift_2 : decode cX6_changeShift 2 = .ok (.putfield 64, 3) := by decide +kernel
theorem dX6_changeShift_5 : decode cX6_changeShift 5 = .ok (.aload_n 0, 1) := by decide +kernel
theorem dX6_changeShift_6 : decode cX6_changeShift 6 = .ok (.iload_n 2, 1) := by decide +kernel
theorem dX6_changeShift_7 : decode cX6_changeShift 7 = .ok (.putfield 67, 3) := by decide +kernel
theorem dX6_changeShift_10 : decode cX6_changeShift 10 = .ok (.iconst 0, 1) := by decide +kernel
theorem dX6_changeShift_11 : decode cX6_changeShift 11 = .ok (.istore_n 3, 1) := by decide +kernel
theorem dX6_changeShift_12 : decode cX6_changeShift 12 = .ok (.iload_n 3, 1) := by decide +kernel
theorem dX6_changeShift_13 : decode cX6_changeShift 13 = .ok (.aload_n 0, 1) := by decide +kernel
theorem dX6_changeShift_14 : decode cX6_changeShift 14 = .ok (.getfield 40, 3) := by decide +kernel
theorem dX6_changeShift_17 : decode cX6_changeShift 17 = .ok (.if_icmp .ge 14, 3) := by decide +kernel
theorem dX6_changeShift_20 : decode cX6_changeShift 20 = .ok (.aload_n 0, 1) := by decide +kernel
theorem dX6_changeShift_21 : decode cX6_changeShift 21 = .ok (.iload_n 3, 1) := by decide +kernel
theorem dX6_changeShift_22 : decode cX6_changeShift 22 = .ok (.invokevirtual 60, 3) := by decide +kernel
theorem dX6_changeShift_25 : decode cX6_changeShift 25 = .ok (.iinc 3 1, 3) := by decide +kernel
theorem dX6_changeShift_28 : decode cX6_changeShift 28 = .ok (.goto (-16), 3) := by decide +kernel
theorem dX6_changeShift_31 : decode cX6_changeShift 31 = .ok (.return_, 1) := by decide +kernel
theorem dX6_isNote_0 : decode cX6_isNote 0 = .ok (.aload_n 0, 1) := by decide +kernel
theorem dX6_isNote_1 : decode cX6_isNote 1 = .ok (.iload_n 1, 1) := by decide +kernel
theorem dX6_isNote_2 : decode cX6_isNote 2 = .ok (.invokevirtual 50, 3) := by decide +kernel
theorem dX6_isNote_5 : decode cX6_isNote 5 = .ok (.ifCond .eq 16, 3) := by decide +kernel
theorem dX6_isNote_8 : decode cX6_isNote 8 = .ok (.aload_n 0, 1) := by decide +kernel
theorem dX6_isNote_9 : decode cX6_isNote 9 = .ok (.getfield 9, 3) := by decide +kernel
theorem dX6_isNote_12 : decode cX6_isNote 12 = .ok (.iload_n 1, 1) := by decide +kernel
theorem dX6_isNote_13 : decode cX6_isNote 13 = .ok (.iaload, 1) := by decide +kernel
theorem dX6_isNote_14 : decode cX6_isNote 14 = .ok (.ifCond .eq 7, 3) := by decide +kernel
theorem dX6_isNote_17 : decode cX6_isNote 17 = .ok (.iconst 1, 1) := by decide +kernel
theorem dX6_isNote_18 : decode cX6_isNote 18 = .ok (.goto 4, 3) := by decide +kernel
theorem dX6_isNote_21 : decode cX6_isNote 21 = .ok (.iconst 0, 1) := by decide +kernel
theorem dX6_isNote_22 : decode cX6_isNote 22 = .ok (.ireturn, 1) := by decide +kernel
theorem dX6_placeAt_0 : decode cX6_placeAt 0 = .ok (.aload_n 0, 1) := by decide +kernel
theorem dX6_placeAt_1 : decode cX6_placeAt 1 = .ok (.iload_n 1, 1) := by decide +kernel
theorem dX6_placeAt_2 : decode cX6_placeAt 2 = .ok (.invokevirtual 50, 3) := by decide +kernel
theorem dX6_placeAt_5 : decode cX6_placeAt 5 = .ok (.ifCond .eq 12, 3) := by decide +kernel
theorem dX6_placeAt_8 : decode cX6_placeAt 8 = .ok (.aload_n 0, 1) := by decide +kernel
theorem dX6_placeAt_9 : decode cX6_placeAt 9 = .ok (.getfield 9, 3) := by decide +kernel
theorem dX6_placeAt_12 : decode cX6_placeAt 12 = .ok (.iload_n 1, 1) := by decide +kernel
theorem dX6_placeAt_13 : decode cX6_placeAt 13 = .ok (.iaload, 1) := by decide +kernel
theorem dX6_placeAt_14 : decode cX6_placeAt 14 = .ok (.goto 4, 3) := by decide +kernel
theorem dX6_placeAt_17 : decode cX6_placeAt 17 = .ok (.iconst 0, 1) := by decide +kernel
theorem dX6_placeAt_18 : decode cX6_placeAt 18 = .ok (.ireturn, 1) := by decide +kernel
theorem dX6_alterAt_0 : decode cX6_alterAt 0 = .ok (.aload_n 0, 1) := by decide +kernel
theorem dX6_alterAt_1 : decode cX6_alterAt 1 = .ok (.iload_n 1, 1) := by decide +kernel
theorem dX6_alterAt_2 : decode cX6_alterAt 2 = .ok (.invokevirtual 50, 3) := by decide +kernel
theorem dX6_alterAt_5 : decode cX6_alterAt 5 = .ok (.ifCond .eq 12, 3) := by decide +kernel
theorem dX6_alterAt_8 : decode cX6_alterAt 8 = .ok (.aload_n 0, 1) := by decide +kernel
theorem dX6_alterAt_9 : decode cX6_alterAt 9 = .ok (.getfield 15, 3) := by decide +kernel
theorem dX6_alterAt_12 : decode cX6_alterAt 12 = .ok (.iload_n 1, 1) := by decide +kernel
theorem dX6_alterAt_13 : decode cX6_alterAt 13 = .ok (.iaload, 1) := by decide +kernel
theorem dX6_alterAt_14 : decode cX6_alterAt 14 = .ok (.goto 4, 3) := by decide +kernel
theorem dX6_alterAt_17 : decode cX6_alterAt 17 = .ok (.iconst 0, 1) := by decide +kernel
theorem dX6_alterAt_18 : decode cX6_alterAt 18 = .ok (.ireturn, 1) := by decide +kernel
theorem dX6_heightAt_0 : decode cX6_heightAt 0 = .ok (.aload_n 0, 1) := by decide +kernel
theorem dX6_heightAt_1 : decode cX6_heightAt 1 = .ok (.iload_n 1, 1) := by decide +kernel
theorem dX6_heightAt_2 : decode cX6_heightAt 2 = .ok (.invokevirtual 50, 3) := by decide +kernel
theorem dX6_heightAt_5 : decode cX6_heightAt 5 = .ok (.ifCond .eq 12, 3) := by decide +kernel
theorem dX6_heightAt_8 : decode cX6_heightAt 8 = .ok (.aload_n 0, 1) := by decide +kernel
theorem dX6_heightAt_9 : decode cX6_heightAt 9 = .ok (.getfield 18, 3) := by decide +kernel
theorem dX6_heightAt_12 : decode cX6_heightAt 12 = .ok (.iload_n 1, 1) := by decide +kernel
theorem dX6_heightAt_13 : decode cX6_heightAt 13 = .ok (.iaload, 1) := by decide +kernel
theorem dX6_heightAt_14 : decode cX6_heightAt 14 = .ok (.goto 4, 3) := by decide +kernel
theorem dX6_heightAt_17 : decode cX6_heightAt 17 = .ok (.iconst (-1), 1) := by decide +kernel
theorem dX6_heightAt_18 : decode cX6_heightAt 18 = .ok (.ireturn, 1) := by decide +kernel
theorem dX6_beginAt_0 : decode cX6_beginAt 0 = .ok (.aload_n 0, 1) := by decide +kernel
theorem dX6_beginAt_1 : decode cX6_beginAt 1 = .ok (.iload_n 1, 1) := by decide +kernel
theorem dX6_beginAt_2 : decode cX6_beginAt 2 = .ok (.invokevirtual 50, 3) := by decide +kernel
theorem dX6_beginAt_5 : decode cX6_beginAt 5 = .ok (.ifCond .eq 12, 3) := by decide +kernel
theorem dX6_beginAt_8 : decode cX6_beginAt 8 = .ok (.aload_n 0, 1) := by decide +kernel
theorem dX6_beginAt_9 : decode cX6_beginAt 9 = .ok (.getfield 21, 3) := by decide +kernel
theorem dX6_beginAt_12 : decode cX6_beginAt 12 = .ok (.iload_n 1, 1) := by decide +kernel
theorem dX6_beginAt_13 : decode cX6_beginAt 13 = .ok (.iaload, 1) := by decide +kernel
theorem dX6_beginAt_14 : decode cX6_beginAt 14 = .ok (.goto 7, 3) := by decide +kernel
theorem dX6_beginAt_17 : decode cX6_beginAt 17 = .ok (.aload_n 0, 1) := by decide +kernel
theorem dX6_beginAt_18 : decode cX6_beginAt 18 = .ok (.getfield 43, 3) := by decide +kernel
theorem dX6_beginAt_21 : decode cX6_beginAt 21 = .ok (.ireturn, 1) := by decide +kernel
theorem dX6_endAt_0 : decode cX6_endAt 0 = .ok (.aload_n 0, 1) := by decide +kernel
theorem dX6_endAt_1 : decode cX6_endAt 1 = .ok (.iload_n 1, 1) := by decide +kernel
theorem dX6_endAt_2 : decode cX6_endAt 2 = .ok (.invokevirtual 50, 3) := by decide +kernel
theorem dX6_endAt_5 : decode cX6_endAt 5 = .ok (.ifCond .eq 19, 3) := by decide +kernel
theorem dX6_endAt_8 : decode cX6_endAt 8 = .ok (.aload_n 0, 1) := by decide +kernel
theorem dX6_endAt_9 : decode cX6_endAt 9 = .ok (.getfield 21, 3) := by decide +kernel
theorem dX6_endAt_12 : decode cX6_endAt 12 = .ok (.iload_n 1, 1) := by decide +kernel
theorem dX6_endAt_13 : decode cX6_endAt 13 = .ok (.iaload, 1) := by decide +kernel
theorem dX6_endAt_14 : decode cX6_endAt 14 = .ok (.aload_n 0, 1) := by decide +kernel
theorem dX6_endAt_15 : decode cX6_endAt 15 = .ok (.getfield 24, 3) := by decide +kernel
theorem dX6_endAt_18 : decode cX6_endAt 18 = .ok (.iload_n 1, 1) := by decide +kernel
theorem dX6_endAt_19 : decode cX6_endAt 19 = .ok (.iaload, 1) := by decide +kernel
theorem dX6_endAt_20 : decode cX6_endAt 20 = .ok (.iadd, 1) := by decide +kernel
theorem dX6_endAt_21 : decode cX6_endAt 21 = .ok (.goto 7, 3) := by decide +kernel
theorem dX6_endAt_24 : decode cX6_endAt 24 = .ok (.aload_n 0, 1) := by decide +kernel
theorem dX6_endAt_25 : decode cX6_endAt 25 = .ok (.getfield 43, 3) := by decide +kernel
theorem dX6_endAt_28 : decode cX6_endAt 28 = .ok (.ireturn, 1) := by decide +kernel
theorem dX6_firstEndingBehind_0 : decode cX6_firstEndingBehind 0 = .ok (.iconst 0, 1) := by decide +kernel
theorem dX6_firstEndingBehind_1 : decode cX6_firstEndingBehind 1 = .ok (.istore_n 2, 1) := by decide +kernel
theorem dX6_firstEndingBehind_2 : decode cX6_firstEndingBehind 2 = .ok (.aload_n 0, 1) := by decide +kernel
theorem dX6_firstEndingBehind_3 : decode cX6_firstEndingBehind 3 = .ok (.getfield 40, 3) := by decide +kernel
theorem dX6_firstEndingBehind_6 : decode cX6_firstEndingBehind 6 = .ok (.istore_n 3, 1) := by decide +kernel
theorem dX6_firstEndingBehind_7 : decode cX6_firstEndingBehind 7 = .ok (.iconst 0, 1) := by decide +kernel
theorem dX6_firstEndingBehind_8 : decode cX6_firstEndingBehind 8 = .ok (.istore 4, 2) := by decide +kernel
theorem dX6_firstEndingBehind_10 : decode cX6_firstEndingBehind 10 = .ok (.iload 4, 2) := by decide +kernel
theorem dX6_firstEndingBehind_12 : decode cX6_firstEndingBehind 12 = .ok (.bipush 32, 2) := by decide +kernel
theorem dX6_firstEndingBehind_14 : decode cX6_firstEndingBehind 14 = .ok (.if_icmp .ge 42, 3) := by decide +kernel
theorem dX6_firstEndingBehind_17 : decode cX6_firstEndingBehind 17 = .ok (.iload_n 2, 1) := by decide +kernel
theorem dX6_firstEndingBehind_18 : decode cX6_firstEndingBehind 18 = .ok (.iload_n 3, 1) := by decide +kernel
theorem dX6_firstEndingBehind_19 : decode cX6_firstEndingBehind 19 = .ok (.if_icmp .ge 37, 3) := by decide +kernel
theorem dX6_firstEndingBehind_22 : decode cX6_firstEndingBehind 22 = .ok (.iload_n 2, 1) := by decide +kernel
theorem dX6_firstEndingBehind_23 : decode cX6_firstEndingBehind 23 = .ok (.iload_n 3, 1) := by decide +kernel
theorem dX6_firstEndingBehind_24 : decode cX6_firstEndingBehind 24 = .ok (.iadd, 1) := by decide +kernel
theorem dX6_firstEndingBehind_25 : decode cX6_firstEndingBehind 25 = .ok (.iconst 2, 1) := by decide +kernel
theorem dX6_firstEndingBehind_26 : decode cX6_firstEndingBehind 26 = .ok (.idiv, 1) := by decide +kernel
theorem dX6_firstEndingBehind_27 : decode cX6_firstEndingBehind 27 = .ok (.istore 5, 2) := by decide +kernel
theorem dX6_firstEndingBehind_29 : decode cX6_firstEndingBehind 29 = .ok (.aload_n 0, 1) := by decide +kernel
theorem dX6_firstEndingBehind_30 : decode cX6_firstEndingBehind 30 = .ok (.iload 5, 2) := by decide +kernel
theorem dX6_firstEndingBehind_32 : decode cX6_firstEndingBehind 32 = .ok (.invokevirtual 74, 3) := by decide +kernel
theorem dX6_firstEndingBehind_35 : decode cX6_firstEndingBehind 35 = .ok (.iload_n 1, 1) := by decide +kernel
theorem dX6_firstEndingBehind_36 : decode cX6_firstEndingBehind 36 = .ok (.if_icmp .le 9, 3) := by decide +kernel
theorem dX6_firstEndingBehind_39 : decode cX6_firstEndingBehind 39 = .ok (.iload 5, 2) := by decide +kernel
theorem dX6_firstEndingBehind_41 : decode cX6_firstEndingBehind 41 = .ok (.istore_n 3, 1) := by decide +kernel
theorem dX6_firstEndingBehind_42 : decode cX6_firstEndingBehind 42 = .ok (.goto 8, 3) := by decide +kernel
theorem dX6_firstEndingBehind_45 : decode cX6_firstEndingBehind 45 = .ok (.iload 5, 2) := by decide +kernel
theorem dX6_firstEndingBehind_47 : decode cX6_firstEndingBehind 47 = .ok (.iconst 1, 1) := by decide +kernel
theorem dX6_firstEndingBehind_48 : decode cX6_firstEndingBehind 48 = .ok (.iadd, 1) := by decide +kernel
theorem dX6_firstEndingBehind_49 : decode cX6_firstEndingBehind 49 = .ok (.istore_n 2, 1) := by decide +kernel
theorem dX6_firstEndingBehind_50 : decode cX6_firstEndingBehind 50 = .ok (.iinc 4 1, 3) := by decide +kernel
theorem dX6_firstEndingBehind_53 : decode cX6_firstEndingBehind 53 = .ok (.goto (-43), 3) := by decide +kernel
theorem dX6_firstEndingBehind_56 : decode cX6_firstEndingBehind 56 = .ok (.iload_n 2, 1) := by decide +kernel
theorem dX6_firstEndingBehind_57 : decode cX6_firstEndingBehind 57 = .ok (.ireturn, 1) := by decide +kernel
theorem dX6_isOutOfRange_0 : decode cX6_isOutOfRange 0 = .ok (.aload_n 0, 1) := by decide +kernel
theorem dX6_isOutOfRange_1 : decode cX6_isOutOfRange 1 = .ok (.iload_n 1, 1) := by decide +kernel
theorem dX6_isOutOfRange_2 : decode cX6_isOutOfRange 2 = .ok (.invokevirtual 50, 3) := by decide +kernel
theorem dX6_isOutOfRange_5 : decode cX6_isOutOfRange 5 = .ok (.ifCond .eq 42, 3) := by decide +kernel
theorem dX6_isOutOfRange_8 : decode cX6_isOutOfRange 8 = .ok (.aload_n 0, 1) := by decide +kernel
theorem dX6_isOutOfRange_9 : decode cX6_isOutOfRange 9 = .ok (.getfield 9, 3) := by decide +kernel
theorem dX6_isOutOfRange_12 : decode cX6_isOutOfRange 12 = .ok (.iload_n 1, 1) := by decide +kernel
theorem dX6_isOutOfRange_13 : decode cX6_isOutOfRange 13 = .ok (.iaload, 1) := by decide +kernel
theorem dX6_isOutOfRange_14 : decode cX6_isOutOfRange 14 = .ok (.ifCond .eq 33, 3) := by decide +kernel
theorem dX6_isOutOfRange_17 : decode cX6_isOutOfRange 17 = .ok (.aload_n 0, 1) := by decide +kernel
theorem dX6_isOutOfRange_18 : decode cX6_isOutOfRange 18 = .ok (.getfield 9, 3) := by decide +kernel
theorem dX6_isOutOfRange_21 : decode cX6_isOutOfRange 21 = .ok (.iload_n 1, 1) := by decide +kernel
theorem dX6_isOutOfRange_22 : decode cX6_isOutOfRange 22 = .ok (.iaload, 1) := by decide +kernel
theorem dX6_isOutOfRange_23 : decode cX6_isOutOfRange 23 = .ok (.aload_n 0, 1) := by decide +kernel
theorem dX6_isOutOfRange_24 : decode cX6_isOutOfRange 24 = .ok (.getfield 33, 3) := by decide +kernel
theorem dX6_isOutOfRange_27 : decode cX6_isOutOfRange 27 = .ok (.if_icmp .lt 16, 3) := by decide +kernel
theorem dX6_isOutOfRange_30 : decode cX6_isOutOfRange 30 = .ok (.aload_n 0, 1) := by decide +kernel
theorem dX6_isOutOfRange_31 : decode cX6_isOutOfRange 31 = .ok (.getfield 9, 3) := by decide +kernel
theorem dX6_isOutOfRange_34 : decode cX6_isOutOfRange 34 = .ok (.iload_n 1, 1) := by decide +kernel
theorem dX6_isOutOfRange_35 : decode cX6_isOutOfRange 35 = .ok (.iaload, 1) := by decide +kernel
theorem dX6_isOutOfRange_36 : decode cX6_isOutOfRange 36 = .ok (.aload_n 0, 1) := by decide +kernel
theorem dX6_isOutOfRange_37 : decode cX6_isOutOfRange 37 = .ok (.getfield 37, 3) := by decide +kernel
theorem dX6_isOutOfRange_40 : decode cX6_isOutOfRange 40 = .ok (.if_icmp .le 7, 3) := by decide +kernel
theorem dX6_isOutOfRange_43 : decode cX6_isOutOfRange 43 = .ok (.iconst 1, 1) := by decide +kernel
theorem dX6_isOutOfRange_44 : decode cX6_isOutOfRange 44 = .ok (.goto 4, 3) := by decide +kernel
theorem dX6_isOutOfRange_47 : decode cX6_isOutOfRange 47 = .ok (.iconst 0, 1) := by decide +kernel
theorem dX6_isOutOfRange_48 : decode cX6_isOutOfRange 48 = .ok (.ireturn, 1) := by decide +kernel
theorem dX6_writtenPlaceAt_0 : decode cX6_writtenPlaceAt 0 = .ok (.aload_n 0, 1) := by decide +kernel
theorem dX6_writtenPlaceAt_1 : decode cX6_writtenPlaceAt 1 = .ok (.iload_n 1, 1) := by decide +kernel
theorem dX6_writtenPlaceAt_2 : decode cX6_writtenPlaceAt 2 = .ok (.invokevirtual 50, 3) := by decide +kernel
theorem dX6_writtenPlaceAt_5 : decode cX6_writtenPlaceAt 5 = .ok (.ifCond .eq 12, 3) := by decide +kernel
theorem dX6_writtenPlaceAt_8 : decode cX6_writtenPlaceAt 8 = .ok (.aload_n 0, 1) := by decide +kernel
theorem dX6_writtenPlaceAt_9 : decode cX6_writtenPlaceAt 9 = .ok (.getfield 27, 3) := by decide +kernel
theorem dX6_writtenPlaceAt_12 : decode cX6_writtenPlaceAt 12 = .ok (.iload_n 1, 1) := by decide +kernel
theorem dX6_writtenPlaceAt_13 : decode cX6_writtenPlaceAt 13 = .ok (.iaload, 1) := by decide +kernel
theorem dX6_writtenPlaceAt_14 : decode cX6_writtenPlaceAt 14 = .ok (.goto 4, 3) := by decide +kernel
theorem dX6_writtenPlaceAt_17 : decode cX6_writtenPlaceAt 17 = .ok (.iconst (-1), 1) := by decide +kernel
theorem dX6_writtenPlaceAt_18 : decode cX6_writtenPlaceAt 18 = .ok (.ireturn, 1) := by decide +kernel
theorem dX6_writtenAlterAt_0 : decode cX6_writtenAlterAt 0 = .ok (.aload_n 0, 1) := by decide +kernel
theorem dX6_writtenAlterAt_1 : decode cX6_writtenAlterAt 1 = .ok (.iload_n 1, 1) := by decide +kernel
theorem dX6_writtenAlterAt_2 : decode cX6_writtenAlterAt 2 = .ok (.invokevirtual 50, 3) := by decide +kernel
theorem dX6_writtenAlterAt_5 : decode cX6_writtenAlterAt 5 = .ok (.ifCond .eq 12, 3) := by decide +kernel
theorem dX6_writtenAlterAt_8 : decode cX6_writtenAlterAt 8 = .ok (.aload_n 0, 1) := by decide +kernel
theorem dX6_writtenAlterAt_9 : decode cX6_writtenAlterAt 9 = .ok (.getfield 30, 3) := by decide +kernel
theorem dX6_writtenAlterAt_12 : decode cX6_writtenAlterAt 12 = .ok (.iload_n 1, 1) := by decide +kernel
theorem dX6_writtenAlterAt_13 : decode cX6_writtenAlterAt 13 = .ok (.iaload, 1) := by decide +kernel
theorem dX6_writtenAlterAt_14 : decode cX6_writtenAlterAt 14 = .ok (.goto 5, 3) := by decide +kernel
theorem dX6_writtenAlterAt_17 : decode cX6_writtenAlterAt 17 = .ok (.bipush (-3), 2) := by decide +kernel
theorem dX6_writtenAlterAt_19 : decode cX6_writtenAlterAt 19 = .ok (.ireturn, 1) := by decide +kernel
theorem dX6_keyAsWritten_0 : decode cX6_keyAsWritten 0 = .ok (.iload_n 1, 1) := by decide +kernel
theorem dX6_keyAsWritten_1 : decode cX6_keyAsWritten 1 = .ok (.aload_n 0, 1) := by decide +kernel
theorem dX6_keyAsWritten_2 : decode cX6_keyAsWritten 2 = .ok (.getfield 64, 3) := by decide +kernel
theorem dX6_keyAsWritten_5 : decode cX6_keyAsWritten 5 = .ok (.iadd, 1) := by decide +kernel
theorem dX6_keyAsWritten_6 : decode cX6_keyAsWritten 6 = .ok (.istore_n 2, 1) := by decide +kernel
theorem dX6_keyAsWritten_7 : decode cX6_keyAsWritten 7 = .ok (.iload_n 2, 1) := by decide +kernel
theorem dX6_keyAsWritten_8 : decode cX6_keyAsWritten 8 = .ok (.bipush 7, 2) := by decide +kernel
theorem dX6_keyAsWritten_10 : decode cX6_keyAsWritten 10 = .ok (.if_icmp .le 8, 3) := by decide +kernel
theorem dX6_keyAsWritten_13 : decode cX6_keyAsWritten 13 = .ok (.iload_n 2, 1) := by decide +kernel
theorem dX6_keyAsWritten_14 : decode cX6_keyAsWritten 14 = .ok (.bipush 12, 2) := by decide +kernel
theorem dX6_keyAsWritten_16 : decode cX6_keyAsWritten 16 = .ok (.isub, 1) := by decide +kernel
theorem dX6_keyAsWritten_17 : decode cX6_keyAsWritten 17 = .ok (.ireturn, 1) := by decide +kernel
theorem dX6_keyAsWritten_18 : decode cX6_keyAsWritten 18 = .ok (.iload_n 2, 1) := by decide +kernel
theorem dX6_keyAsWritten_19 : decode cX6_keyAsWritten 19 = .ok (.bipush (-7), 2) := by decide +kernel
theorem dX6_keyAsWritten_21 : decode cX6_keyAsWritten 21 = .ok (.if_icmp .ge 10, 3) := by decide +kernel
theorem dX6_keyAsWritten_24 : decode cX6_keyAsWritten 24 = .ok (.iload_n 2, 1) := by decide +kernel
theorem dX6_keyAsWritten_25 : decode cX6_keyAsWritten 25 = .ok (.bipush 12, 2) := by decide +kernel
theorem dX6_keyAsWritten_27 : decode cX6_keyAsWritten 27 = .ok (.iadd, 1) := by decide +kernel
theorem dX6_keyAsWritten_28 : decode cX6_keyAsWritten 28 = .ok (.goto 4, 3) := by decide +kernel
theorem dX6_keyAsWritten_31 : decode cX6_keyAsWritten 31 = .ok (.iload_n 2, 1) := by decide +kernel
theorem dX6_keyAsWritten_32 : decode cX6_keyAsWritten 32 = .ok (.ireturn, 1) := by decide +kernel
theorem dX6_notesOutOfRange_0 : decode cX6_notesOutOfRange 0 = .ok (.iconst 0, 1) := by decide +kernel
theorem dX6_notesOutOfRange_1 : decode cX6_notesOutOfRange 1 = .ok (.istore_n 1, 1) := by decide +kernel
theorem dX6_notesOutOfRange_2 : decode cX6_notesOutOfRange 2 = .ok (.iconst 0, 1) := by decide +kernel
theorem dX6_notesOutOfRange_3 : decode cX6_notesOutOfRange 3 = .ok (.istore_n 2, 1) := by decide +kernel
theorem dX6_notesOutOfRange_4 : decode cX6_notesOutOfRange 4 = .ok (.iload_n 2, 1) := by decide +kernel
theorem dX6_notesOutOfRange_5 : decode cX6_notesOutOfRange 5 = .ok (.aload_n 0, 1) := by decide +kernel
theorem dX6_notesOutOfRange_6 : decode cX6_notesOutOfRange 6 = .ok (.getfield 40, 3) := by decide +kernel
theorem dX6_notesOutOfRange_9 : decode cX6_notesOutOfRange 9 = .ok (.if_icmp .ge 25, 3) := by decide +kernel
theorem dX6_notesOutOfRange_12 : decode cX6_notesOutOfRange 12 = .ok (.iload_n 1, 1) := by decide +kernel
theorem dX6_notesOutOfRange_13 : decode cX6_notesOutOfRange 13 = .ok (.aload_n 0, 1) := by decide +kernel
theorem dX6_notesOutOfRange_14 : decode cX6_notesOutOfRange 14 = .ok (.iload_n 2, 1) := by decide +kernel
theorem dX6_notesOutOfRange_15 : decode cX6_notesOutOfRange 15 = .ok (.invokevirtual 80, 3) := by decide +kernel
theorem dX6_notesOutOfRange_18 : decode cX6_notesOutOfRange 18 = .ok (.ifCond .eq 7, 3) := by decide +kernel
theorem dX6_notesOutOfRange_21 : decode cX6_notesOutOfRange 21 = .ok (.iconst 1, 1) := by decide +kernel
theorem dX6_notesOutOfRange_22 : decode cX6_notesOutOfRange 22 = .ok (.goto 4, 3) := by decide +kernel
theorem dX6_notesOutOfRange_25 : decode cX6_notesOutOfRange 25 = .ok (.iconst 0, 1) := by decide +kernel
theorem dX6_notesOutOfRange_26 : decode cX6_notesOutOfRange 26 = .ok (.iadd, 1) := by decide +kernel
theorem dX6_notesOutOfRange_27 : decode cX6_notesOutOfRange 27 = .ok (.istore_n 1, 1) := by decide +kernel
theorem dX6_notesOutOfRange_28 : decode cX6_notesOutOfRange 28 = .ok (.iinc 2 1, 3) := by decide +kernel
theorem dX6_notesOutOfRange_31 : decode cX6_notesOutOfRange 31 = .ok (.goto (-27), 3) := by decide +kernel
theorem dX6_notesOutOfRange_34 : decode cX6_notesOutOfRange 34 = .ok (.iload_n 1, 1) := by decide +kernel
theorem dX6_notesOutOfRange_35 : decode cX6_notesOutOfRange 35 = .ok (.ireturn, 1) := by decide +kernel
theorem dX6_notesWithoutWrittenPitch_0 : decode cX6_notesWithoutWrittenPitch 0 = .ok (.iconst 0, 1) := by decide +kernel
theorem dX6_notesWithoutWrittenPitch_1 : decode cX6_notesWithoutWrittenPitch 1 = .ok (.istore_n 1, 1) := by decide +kernel
theorem dX6_notesWithoutWrittenPitch_2 : decode cX6_notesWithoutWrittenPitch 2 = .ok (.iconst 0, 1) := by decide +kernel
theorem dX6_notesWithoutWrittenPitch_3 : decode cX6_notesWithoutWrittenPitch 3 = .ok (.istore_n 2, 1) := by decide +kernel
theorem dX6_notesWithoutWrittenPitch_4 : decode cX6_notesWithoutWrittenPitch 4 = .ok (.iload_n 2, 1) := by decide +kernel
theorem dX6_notesWithoutWrittenPitch_5 : decode cX6_notesWithoutWrittenPitch 5 = .ok (.aload_n 0, 1) := by decide +kernel
theorem dX6_notesWithoutWrittenPitch_6 : decode cX6_notesWithoutWrittenPitch 6 = .ok (.getfield 40, 3) := by decide +kernel
theorem dX6_notesWithoutWrittenPitch_9 : decode cX6_notesWithoutWrittenPitch 9 = .ok (.if_icmp .ge 35, 3) := by decide +kernel
theorem dX6_notesWithoutWrittenPitch_12 : decode cX6_notesWithoutWrittenPitch 12 = .ok (.iload_n 1, 1) := by decide +kernel
theorem dX6_notesWithoutWrittenPitch_13 : decode cX6_notesWithoutWrittenPitch 13 = .ok (.aload_n 0, 1) := by decide +kernel
theorem dX6_notesWithoutWrittenPitch_14 : decode cX6_notesWithoutWrittenPitch 14 = .ok (.iload_n 2, 1) := by decide +kernel
theorem dX6_notesWithoutWrittenPitch_15 : decode cX6_notesWithoutWrittenPitch 15 = .ok (.invokevirtual 77, 3) := by decide +kernel
theorem dX6_notesWithoutWrittenPitch_18 : decode cX6_notesWithoutWrittenPitch 18 = .ok (.ifCond .eq 17, 3) := by decide +kernel
theorem dX6_notesWithoutWrittenPitch_21 : decode cX6_notesWithoutWrittenPitch 21 = .ok (.aload_n 0, 1) := by decide +kernel
theorem dX6_notesWithoutWrittenPitch_22 : decode cX6_notesWithoutWrittenPitch 22 = .ok (.getfield 27, 3) := by decide +kernel
theorem dX6_notesWithoutWrittenPitch_25 : decode cX6_notesWithoutWrittenPitch 25 = .ok (.iload_n 2, 1) := by decide +kernel
theorem dX6_notesWithoutWrittenPitch_26 : decode cX6_notesWithoutWrittenPitch 26 = .ok (.iaload, 1) := by decide +kernel
theorem dX6_notesWithoutWrittenPitch_27 : decode cX6_notesWithoutWrittenPitch 27 = .ok (.iconst (-1), 1) := by decide +kernel
theorem dX6_notesWithoutWrittenPitch_28 : decode cX6_notesWithoutWrittenPitch 28 = .ok (.if_icmp .ne 7, 3) := by decide +kernel
theorem dX6_notesWithoutWrittenPitch_31 : decode cX6_notesWithoutWrittenPitch 31 = .ok (.iconst 1, 1) := by decide +kernel
theorem dX6_notesWithoutWrittenPitch_32 : decode cX6_notesWithoutWrittenPitch 32 = .ok (.goto 4, 3) := by decide +kernel
theorem dX6_notesWithoutWrittenPitch_35 : decode cX6_notesWithoutWrittenPitch 35 = .ok (.iconst 0, 1) := by decide +kernel
theorem dX6_notesWithoutWrittenPitch_36 : decode cX6_notesWithoutWrittenPitch 36 = .ok (.iadd, 1) := by decide +kernel
theorem dX6_notesWithoutWrittenPitch_37 : decode cX6_notesWithoutWrittenPitch 37 = .ok (.istore_n 1, 1) := by decide +kernel
theorem dX6_notesWithoutWrittenPitch_38 : decode cX6_notesWithoutWrittenPitch 38 = .ok (.iinc 2 1, 3) := by decide +kernel
theorem dX6_notesWithoutWrittenPitch_41 : decode cX6_notesWithoutWrittenPitch 41 = .ok (.goto (-37), 3) := by decide +kernel
theorem dX6_notesWithoutWrittenPitch_44 : decode cX6_notesWithoutWrittenPitch 44 = .ok (.iload_n 1, 1) := by decide +kernel
theorem dX6_notesWithoutWrittenPitch_45 : decode cX6_notesWithoutWrittenPitch 45 = .ok (.ireturn, 1) := by decide +kernel
theorem dX7_isPitch_0 : decode cX7_isPitch 0 = .ok (.iload_n 0, 1) := by decide +kernel
theorem dX7_isPitch_1 : decode cX7_isPitch 1 = .ok (.iconst 1, 1) := by decide +kernel
theorem dX7_isPitch_2 : decode cX7_isPitch 2 = .ok (.if_icmp .lt 24, 3) := by decide +kernel
theorem dX7_isPitch_5 : decode cX7_isPitch 5 = .ok (.iload_n 0, 1) := by decide +kernel
theorem dX7_isPitch_6 : decode cX7_isPitch 6 = .ok (.bipush 62, 2) := by decide +kernel
theorem dX7_isPitch_8 : decode cX7_isPitch 8 = .ok (.if_icmp .gt 18, 3) := by decide +kernel
theorem dX7_isPitch_11 : decode cX7_isPitch 11 = .ok (.iload_n 1, 1) := by decide +kernel
theorem dX7_isPitch_12 : decode cX7_isPitch 12 = .ok (.bipush (-2), 2) := by decide +kernel
theorem dX7_isPitch_14 : decode cX7_isPitch 14 = .ok (.if_icmp .lt 12, 3) := by decide +kernel
theorem dX7_isPitch_17 : decode cX7_isPitch 17 = .ok (.iload_n 1, 1) := by decide +kernel
theorem dX7_isPitch_18 : decode cX7_isPitch 18 = .ok (.iconst 2, 1) := by decide +kernel
theorem dX7_isPitch_19 : decode cX7_isPitch 19 = .ok (.if_icmp .gt 7, 3) := by decide +kernel
theorem dX7_isPitch_22 : decode cX7_isPitch 22 = .ok (.iconst 1, 1) := by decide +kernel
theorem dX7_isPitch_23 : decode cX7_isPitch 23 = .ok (.goto 4, 3) := by decide +kernel
theorem dX7_isPitch_26 : decode cX7_isPitch 26 = .ok (.iconst 0, 1) := by decide +kernel
theorem dX7_isPitch_27 : decode cX7_isPitch 27 = .ok (.ireturn, 1) := by decide +kernel
theorem dX7_plainHeight_0 : decode cX7_plainHeight 0 = .ok (.iload_n 0, 1) := by decide +kernel
theorem dX7_plainHeight_1 : decode cX7_plainHeight 1 = .ok (.bipush 7, 2) := by decide +kernel
theorem dX7_plainHeight_3 : decode cX7_plainHeight 3 = .ok (.invokestatic 9, 3) := by decide +kernel
theorem dX7_plainHeight_6 : decode cX7_plainHeight 6 = .ok (.istore_n 1, 1) := by decide +kernel
theorem dX7_plainHeight_7 : decode cX7_plainHeight 7 = .ok (.iload_n 1, 1) := by decide +kernel
theorem dX7_plainHeight_8 : decode cX7_plainHeight 8 = .ok (.ifCond .lt 19, 3) := by decide +kernel
theorem dX7_plainHeight_11 : decode cX7_plainHeight 11 = .ok (.iload_n 1, 1) := by decide +kernel
theorem dX7_plainHeight_12 : decode cX7_plainHeight 12 = .ok (.getstatic 15, 3) := by decide +kernel
theorem dX7_plainHeight_15 : decode cX7_plainHeight 15 = .ok (.arraylength, 1) := by decide +kernel
theorem dX7_plainHeight_16 : decode cX7_plainHeight 16 = .ok (.if_icmp .ge 11, 3) := by decide +kernel
theorem dX7_plainHeight_19 : decode cX7_plainHeight 19 = .ok (.getstatic 15, 3) := by decide +kernel
theorem dX7_plainHeight_22 : decode cX7_plainHeight 22 = .ok (.iload_n 1, 1) := by decide +kernel
theorem dX7_plainHeight_23 : decode cX7_plainHeight 23 = .ok (.iaload, 1) := by decide +kernel
theorem dX7_plainHeight_24 : decode cX7_plainHeight 24 = .ok (.goto 4, 3) := by decide +kernel
theorem dX7_plainHeight_27 : decode cX7_plainHeight 27 = .ok (.iconst 0, 1) := by decide +kernel
theorem dX7_plainHeight_28 : decode cX7_plainHeight 28 = .ok (.istore_n 2, 1) := by decide +kernel
theorem dX7_plainHeight_29 : decode cX7_plainHeight 29 = .ok (.bipush 12, 2) := by decide +kernel
theorem dX7_plainHeight_31 : decode cX7_plainHeight 31 = .ok (.iload_n 0, 1) := by decide +kernel
theorem dX7_plainHeight_32 : decode cX7_plainHeight 32 = .ok (.bipush 7, 2) := by decide +kernel
theorem dX7_plainHeight_34 : decode cX7_plainHeight 34 = .ok (.invokestatic 21, 3) := by decide +kernel
theorem dX7_plainHeight_37 : decode cX7_plainHeight 37 = .ok (.imul, 1) := by decide +kernel
theorem dX7_plainHeight_38 : decode cX7_plainHeight 38 = .ok (.iload_n 2, 1) := by decide +kernel
theorem dX7_plainHeight_39 : decode cX7_plainHeight 39 = .ok (.iadd, 1) := by decide +kernel
theorem dX7_plainHeight_40 : decode cX7_plainHeight 40 = .ok (.ireturn, 1) := by decide +kernel
theorem dX7_alterByKey_0 : decode cX7_alterByKey 0 = .ok (.iload_n 1, 1) := by decide +kernel
theorem dX7_alterByKey_1 : decode cX7_alterByKey 1 = .ok (.ifCond .lt 11, 3) := by decide +kernel
theorem dX7_alterByKey_4 : decode cX7_alterByKey 4 = .ok (.iload_n 1, 1) := by decide +kernel
theorem dX7_alterByKey_5 : decode cX7_alterByKey 5 = .ok (.getstatic 24, 3) := by decide +kernel
theorem dX7_alterByKey_8 : decode cX7_alterByKey 8 = .ok (.arraylength, 1) := by decide +kernel
theorem dX7_alterByKey_9 : decode cX7_alterByKey 9 = .ok (.if_icmp .lt 5, 3) := by decide +kernel
theorem dX7_alterByKey_12 : decode cX7_alterByKey 12 = .ok (.iconst 0, 1) := by decide +kernel
theorem dX7_alterByKey_13 : decode cX7_alterByKey 13 = .ok (.ireturn, 1) := by decide +kernel
theorem dX7_alterByKey_14 : decode cX7_alterByKey 14 = .ok (.getstatic 24, 3) := by decide +kernel
theorem dX7_alterByKey_17 : decode cX7_alterByKey 17 = .ok (.iload_n 1, 1) := by decide +kernel
theorem dX7_alterByKey_18 : decode cX7_alterByKey 18 = .ok (.iaload, 1) := by decide +kernel
theorem dX7_alterByKey_19 : decode cX7_alterByKey 19 = .ok (.istore_n 2, 1) := by decide +kernel
theorem dX7_alterByKey_20 : decode cX7_alterByKey 20 = .ok (.iload_n 0, 1) := by decide +kernel
theorem dX7_alterByKey_21 : decode cX7_alterByKey 21 = .ok (.iload_n 2, 1) := by decide +kernel
theorem dX7_alterByKey_22 : decode cX7_alterByKey 22 = .ok (.if_icmp .le 5, 3) := by decide +kernel
theorem dX7_alterByKey_25 : decode cX7_alterByKey 25 = .ok (.iconst 1, 1) := by decide +kernel
theorem dX7_alterByKey_26 : decode cX7_alterByKey 26 = .ok (.ireturn, 1) := by decide +kernel
theorem dX7_alterByKey_27 : decode cX7_alterByKey 27 = .ok (.iload_n 0, 1) := by decide +kernel
theorem dX7_alterByKey_28 : decode cX7_alterByKey 28 = .ok (.ineg, 1) := by decide +kernel
theorem dX7_alterByKey_29 : decode cX7_alterByKey 29 = .ok (.bipush 6, 2) := by decide +kernel
theorem dX7_alterByKey_31 : decode cX7_alterByKey 31 = .ok (.iload_n 2, 1) := by decide +kernel
theorem dX7_alterByKey_32 : decode cX7_alterByKey 32 = .ok (.isub, 1) := by decide +kernel
theorem dX7_alterByKey_33 : decode cX7_alterByKey 33 = .ok (.if_icmp .le 7, 3) := by decide +kernel
theorem dX7_alterByKey_36 : decode cX7_alterByKey 36 = .ok (.iconst (-1), 1) := by decide +kernel
theorem dX7_alterByKey_37 : decode cX7_alterByKey 37 = .ok (.goto 4, 3) := by decide +kernel
theorem dX7_alterByKey_40 : decode cX7_alterByKey 40 = .ok (.iconst 0, 1) := by decide +kernel
theorem dX7_alterByKey_41 : decode cX7_alterByKey 41 = .ok (.ireturn, 1) := by decide +kernel
theorem dX8_isValue_0 : decode cX8_isValue 0 = .ok (.iconst 0, 1) := by decide +kernel
theorem dX8_isValue_1 : decode cX8_isValue 1 = .ok (.istore_n 1, 1) := by decide +kernel
theorem dX8_isValue_2 : decode cX8_isValue 2 = .ok (.iload_n 1, 1) := by decide +kernel
theorem dX8_isValue_3 : decode cX8_isValue 3 = .ok (.getstatic 7, 3) := by decide +kernel
theorem dX8_isValue_6 : decode cX8_isValue 6 = .ok (.arraylength, 1) := by decide +kernel
theorem dX8_isValue_7 : decode cX8_isValue 7 = .ok (.if_icmp .ge 20, 3) := by decide +kernel
theorem dX8_isValue_10 : decode cX8_isValue 10 = .ok (.getstatic 7, 3) := by decide +kernel
theorem dX8_isValue_13 : decode cX8_isValue 13 = .ok (.iload_n 1, 1) := by decide +kernel
theorem dX8_isValue_14 : decode cX8_isValue 14 = .ok (.iaload, 1) := by decide +kernel
theorem dX8_isValue_15 : decode cX8_isValue 15 = .ok (.iload_n 0, 1) := by decide +kernel
theorem dX8_isValue_16 : decode cX8_isValue 16 = .ok (.if_icmp .ne 5, 3) := by decide +kernel
theorem dX8_isValue_19 : decode cX8_isValue 19 = .ok (.iconst 1, 1) := by decide +kernel
theorem dX8_isValue_20 : decode cX8_isValue 20 = .ok (.ireturn, 1) := by decide +kernel
theorem dX8_isValue_21 : decode cX8_isValue 21 = .ok (.iinc 1 1, 3) := by decide +kernel
theorem dX8_isValue_24 : decode cX8_isValue 24 = .ok (.goto (-22), 3) := by decide +kernel
theorem dX8_isValue_27 : decode cX8_isValue 27 = .ok (.iconst 0, 1) := by decide +kernel
theorem dX8_isValue_28 : decode cX8_isValue 28 = .ok (.ireturn, 1) := by decide +kernel
theorem dX8_greatestIn_0 : decode cX8_greatestIn 0 = .ok (.iconst 0, 1) := by decide +kernel
theorem dX8_greatestIn_1 : decode cX8_greatestIn 1 = .ok (.istore_n 1, 1) := by decide +kernel
theorem dX8_greatestIn_2 : decode cX8_greatestIn 2 = .ok (.iload_n 1, 1) := by decide +kernel
theorem dX8_greatestIn_3 : decode cX8_greatestIn 3 = .ok (.getstatic 7, 3) := by decide +kernel
theorem dX8_greatestIn_6 : decode cX8_greatestIn 6 = .ok (.arraylength, 1) := by decide +kernel
theorem dX8_greatestIn_7 : decode cX8_greatestIn 7 = .ok (.if_icmp .ge 24, 3) := by decide +kernel
theorem dX8_greatestIn_10 : decode cX8_greatestIn 10 = .ok (.getstatic 7, 3) := by decide +kernel
theorem dX8_greatestIn_13 : decode cX8_greatestIn 13 = .ok (.iload_n 1, 1) := by decide +kernel
theorem dX8_greatestIn_14 : decode cX8_greatestIn 14 = .ok (.iaload, 1) := by decide +kernel
theorem dX8_greatestIn_15 : decode cX8_greatestIn 15 = .ok (.iload_n 0, 1) := by decide +kernel
theorem dX8_greatestIn_16 : decode cX8_greatestIn 16 = .ok (.if_icmp .gt 9, 3) := by decide +kernel
theorem dX8_greatestIn_19 : decode cX8_greatestIn 19 = .ok (.getstatic 7, 3) := by decide +kernel
theorem dX8_greatestIn_22 : decode cX8_greatestIn 22 = .ok (.iload_n 1, 1) := by decide +kernel
theorem dX8_greatestIn_23 : decode cX8_greatestIn 23 = .ok (.iaload, 1) := by decide +kernel
theorem dX8_greatestIn_24 : decode cX8_greatestIn 24 = .ok (.ireturn, 1) := by decide +kernel
theorem dX8_greatestIn_25 : decode cX8_greatestIn 25 = .ok (.iinc 1 1, 3) := by decide +kernel
theorem dX8_greatestIn_28 : decode cX8_greatestIn 28 = .ok (.goto (-26), 3) := by decide +kernel
theorem dX8_greatestIn_31 : decode cX8_greatestIn 31 = .ok (.iload_n 0, 1) := by decide +kernel
theorem dX8_greatestIn_32 : decode cX8_greatestIn 32 = .ok (.ireturn, 1) := by decide +kernel
theorem dX9_init_0 : decode cX9_init 0 = .ok (.aload_n 0, 1) := by decide +kernel
theorem dX9_init_1 : decode cX9_init 1 = .ok (.invokespecial 3, 3) := by decide +kernel
theorem dX9_init_4 : decode cX9_init 4 = .ok (.aload_n 0, 1) := by decide +kernel
theorem dX9_init_5 : decode cX9_init 5 = .ok (.iconst 4, 1) := by decide +kernel
theorem dX9_init_6 : decode cX9_init 6 = .ok (.anewarray 9, 3) := by decide +kernel
theorem dX9_init_9 : decode cX9_init 9 = .ok (.putfield 11, 3) := by decide +kernel
theorem dX9_init_12 : decode cX9_init 12 = .ok (.iconst 0, 1) := by decide +kernel
theorem dX9_init_13 : decode cX9_init 13 = .ok (.istore_n 1, 1) := by decide +kernel
theorem dX9_init_14 : decode cX9_init 14 = .ok (.iload_n 1, 1) := by decide +kernel
theorem dX9_init_15 : decode cX9_init 15 = .ok (.aload_n 0, 1) := by decide +kernel
theorem dX9_init_16 : decode cX9_init 16 = .ok (.getfield 11, 3) := by decide +kernel
theorem dX9_init_19 : decode cX9_init 19 = .ok (.arraylength, 1) := by decide +kernel
theorem dX9_init_20 : decode cX9_init 20 = .ok (.if_icmp .ge 22, 3) := by decide +kernel
theorem dX9_init_23 : decode cX9_init 23 = .ok (.aload_n 0, 1) := by decide +kernel
theorem dX9_init_24 : decode cX9_init 24 = .ok (.getfield 11, 3) := by decide +kernel
theorem dX9_init_27 : decode cX9_init 27 = .ok (.iload_n 1, 1) := by decide +kernel
theorem dX9_init_28 : decode cX9_init 28 = .ok (.new 9, 3) := by decide +kernel
theorem dX9_init_31 : decode cX9_init 31 = .ok (.dup, 1) := by decide +kernel
theorem dX9_init_32 : decode cX9_init 32 = .ok (.invokespecial 15, 3) := by decide +kernel
theorem dX9_init_35 : decode cX9_init 35 = .ok (.aastore, 1) := by decide +kernel
theorem dX9_init_36 : decode cX9_init 36 = .ok (.iinc 1 1, 3) := by decide +kernel
theorem dX9_init_39 : decode cX9_init 39 = .ok (.goto (-25), 3) := by decide +kernel
theorem dX9_init_42 : decode cX9_init 42 = .ok (.aload_n 0, 1) := by decide +kernel
theorem dX9_init_43 : decode cX9_init 43 = .ok (.new 16, 3) := by decide +kernel
theorem dX9_init_46 : decode cX9_init 46 = .ok (.dup, 1) := by decide +kernel
theorem dX9_init_47 : decode cX9_init 47 = .ok (.invokespecial 18, 3) := by decide +kernel
theorem dX9_init_50 : decode cX9_init 50 = .ok (.putfield 19, 3) := by decide +kernel
theorem dX9_init_53 : decode cX9_init 53 = .ok (.aload_n 0, 1) := by decide +kernel
theorem dX9_init_54 : decode cX9_init 54 = .ok (.new 23, 3) := by decide +kernel
theorem dX9_init_57 : decode cX9_init 57 = .ok (.dup, 1) := by decide +kernel
theorem dX9_init_58 : decode cX9_init 58 = .ok (.invokespecial 25, 3) := by decide +kernel
theorem dX9_init_61 : decode cX9_init 61 = .ok (.putfield 26, 3) := by decide +kernel
theorem dX9_init_64 : decode cX9_init 64 = .ok (.aload_n 0, 1) := by decide +kernel
theorem dX9_init_65 : decode cX9_init 65 = .ok (.new 30, 3) := by decide +kernel
theorem dX9_init_68 : decode cX9_init 68 = .ok (.dup, 1) := by decide +kernel
theorem dX9_init_69 : decode cX9_init 69 = .ok (.invokespecial 32, 3) := by decide +kernel
theorem dX9_init_72 : decode cX9_init 72 = .ok (.putfield 33, 3) := by decide +kernel
theorem dX9_init_75 : decode cX9_init 75 = .ok (.aload_n 0, 1) := by decide +kernel
theorem dX9_init_76 : decode cX9_init 76 = .ok (.new 37, 3) := by decide +kernel
theorem dX9_init_79 : decode cX9_init 79 = .ok (.dup, 1) := by decide +kernel
theorem dX9_init_80 : decode cX9_init 80 = .ok (.invokespecial 39, 3) := by decide +kernel
theorem dX9_init_83 : decode cX9_init 83 = .ok (.putfield 40, 3) := by decide +kernel
theorem dX9_init_86 : decode cX9_init 86 = .ok (.aload_n 0, 1) := by decide +kernel
theorem dX9_init_87 : decode cX9_init 87 = .ok (.new 44, 3) := by decide +kernel
theorem dX9_init_90 : decode cX9_init 90 = .ok (.dup, 1) := by decide +kernel
theorem dX9_init_91 : decode cX9_init 91 = .ok (.invokespecial 46, 3) := by decide +kernel
theorem dX9_init_94 : decode cX9_init 94 = .ok (.putfield 47, 3) := by decide +kernel
theorem dX9_init_97 : decode cX9_init 97 = .ok (.aload_n 0, 1) := by decide +kernel
theorem dX9_init_98 : decode cX9_init 98 = .ok (.new 51, 3) := by decide +kernel
theorem dX9_init_101 : decode cX9_init 101 = .ok (.dup, 1) := by decide +kernel
theorem dX9_init_102 : decode cX9_init 102 = .ok (.invokespecial 53, 3) := by decide +kernel
theorem dX9_init_105 : decode cX9_init 105 = .ok (.putfield 54, 3) := by decide +kernel
theorem dX9_init_108 : decode cX9_init 108 = .ok (.aload_n 0, 1) := by decide +kernel
theorem dX9_init_109 : decode cX9_init 109 = .ok (.iconst 0, 1) := by decide +kernel
theorem dX9_init_110 : decode cX9_init 110 = .ok (.putfield 58, 3) := by decide +kernel
theorem dX9_init_113 : decode cX9_init 113 = .ok (.aload_n 0, 1) := by decide +kernel
theorem dX9_init_114 : decode cX9_init 114 = .ok (.iconst 0, 1) := by decide +kernel
theorem dX9_init_115 : decode cX9_init 115 = .ok (.putfield 62, 3) := by decide +kernel
theorem dX9_init_118 : decode cX9_init 118 = .ok (.aload_n 0, 1) := by decide +kernel
theorem dX9_init_119 : decode cX9_init 119 = .ok (.iconst 0, 1) := by decide +kernel
theorem dX9_init_120 : decode cX9_init 120 = .ok (.putfield 65, 3) := by decide +kernel
theorem dX9_init_123 : decode cX9_init 123 = .ok (.aload_n 0, 1) := by decide +kernel
theorem dX9_init_124 : decode cX9_init 124 = .ok (.iconst (-1), 1) := by decide +kernel
theorem dX9_init_125 : decode cX9_init 125 = .ok (.putfield 68, 3) := by decide +kernel
theorem dX9_init_128 : decode cX9_init 128 = .ok (.aload_n 0, 1) := by decide +kernel
theorem dX9_init_129 : decode cX9_init 129 = .ok (.iconst (-1), 1) := by decide +kernel
theorem dX9_init_130 : decode cX9_init 130 = .ok (.putfield 72, 3) := by decide +kernel
theorem dX9_init_133 : decode cX9_init 133 = .ok (.return_, 1) := by decide +kernel
theorem dX9_addNote_0 : decode cX9_addNote 0 = .ok (.aload_n 0, 1) := by decide +kernel
theorem dX9_addNote_1 : decode cX9_addNote 1 = .ok (.iload_n 1, 1) := by decide +kernel
theorem dX9_addNote_2 : decode cX9_addNote 2 = .ok (.invokevirtual 75, 3) := by decide +kernel
theorem dX9_addNote_5 : decode cX9_addNote 5 = .ok (.astore 5, 2) := by decide +kernel
theorem dX9_addNote_7 : decode cX9_addNote 7 = .ok (.iload_n 2, 1) := by decide +kernel
theorem dX9_addNote_8 : decode cX9_addNote 8 = .ok (.iload_n 3, 1) := by decide +kernel
theorem dX9_addNote_9 : decode cX9_addNote 9 = .ok (.invokestatic 79, 3) := by decide +kernel
theorem dX9_addNote_12 : decode cX9_addNote 12 = .ok (.iload 4, 2) := by decide +kernel
theorem dX9_addNote_14 : decode cX9_addNote 14 = .ok (.invokestatic 83, 3) := by decide +kernel
theorem dX9_addNote_17 : decode cX9_addNote 17 = .ok (.aload_n 0, 1) := by decide +kernel
theorem dX9_addNote_18 : decode cX9_addNote 18 = .ok (.aload 5, 2) := by decide +kernel
theorem dX9_addNote_20 : decode cX9_addNote 20 = .ok (.iload 4, 2) := by decide +kernel
theorem dX9_addNote_22 : decode cX9_addNote 22 = .ok (.invokevirtual 87, 3) := by decide +kernel
theorem dX9_addNote_25 : decode cX9_addNote 25 = .ok (.aload_n 0, 1) := by decide +kernel
theorem dX9_addNote_26 : decode cX9_addNote 26 = .ok (.invokevirtual 91, 3) := by decide +kernel
theorem dX9_addNote_29 : decode cX9_addNote 29 = .ok (.aload 5, 2) := by decide +kernel
theorem dX9_addNote_31 : decode cX9_addNote 31 = .ok (.iload_n 2, 1) := by decide +kernel
theorem dX9_addNote_32 : decode cX9_addNote 32 = .ok (.iload_n 3, 1) := by decide +kernel
theorem dX9_addNote_33 : decode cX9_addNote 33 = .ok (.iload 4, 2) := by decide +kernel
theorem dX9_addNote_35 : decode cX9_addNote 35 = .ok (.invokevirtual 94, 3) := by decide +kernel
theorem dX9_addNote_38 : decode cX9_addNote 38 = .ok (.ireturn, 1) := by decide +kernel
theorem dX9_addRest_0 : decode cX9_addRest 0 = .ok (.aload_n 0, 1) := by decide +kernel
theorem dX9_addRest_1 : decode cX9_addRest 1 = .ok (.iload_n 1, 1) := by decide +kernel
theorem dX9_addRest_2 : decode cX9_addRest 2 = .ok (.invokevirtual 75, 3) := by decide +kernel
theorem dX9_addRest_5 : decode cX9_addRest 5 = .ok (.astore_n 3, 1) := by decide +kernel
theorem dX9_addRest_6 : decode cX9_addRest 6 = .ok (.iload_n 2, 1) := by decide +kernel
theorem dX9_addRest_7 : decode cX9_addRest 7 = .ok (.invokestatic 83, 3) := by decide +kernel
theorem dX9_addRest_10 : decode cX9_addRest 10 = .ok (.aload_n 0, 1) := by decide +kernel
theorem dX9_addRest_11 : decode cX9_addRest 11 = .ok (.aload_n 3, 1) := by decide +kernel
theorem dX9_addRest_12 : decode cX9_addRest 12 = .ok (.iload_n 2, 1) := by decide +kernel
theorem dX9_addRest_13 : decode cX9_addRest 13 = .ok (.invokevirtual 87, 3) := by decide +kernel
theorem dX9_addRest_16 : decode cX9_addRest 16 = .ok (.aload_n 0, 1) := by decide +kernel
theorem dX9_addRest_17 : decode cX9_addRest 17 = .ok (.invokevirtual 91, 3) := by decide +kernel
theorem dX9_addRest_20 : decode cX9_addRest 20 = .ok (.aload_n 3, 1) := by decide +kernel
theorem dX9_addRest_21 : decode cX9_addRest 21 = .ok (.iconst 0, 1) := by decide +kernel
theorem dX9_addRest_22 : decode cX9_addRest 22 = .ok (.iconst 0, 1) := by decide +kernel
theorem dX9_addRest_23 : decode cX9_addRest 23 = .ok (.iload_n 2, 1) := by decide +kernel
theorem dX9_addRest_24 : decode cX9_addRest 24 = .ok (.invokevirtual 94, 3) := by decide +kernel
theorem dX9_addRest_27 : decode cX9_addRest 27 = .ok (.ireturn, 1) := by decide +kernel
theorem dX9_takeLast_0 : decode cX9_takeLast 0 = .ok (.aload_n 0, 1) := by decide +kernel
theorem dX9_takeLast_1 : decode cX9_takeLast 1 = .ok (.iload_n 1, 1) := by decide +kernel
theorem dX9_takeLast_2 : decode cX9_takeLast 2 = .ok (.invokevirtual 75, 3) := by decide +kernel
theorem dX9_takeLast_5 : decode cX9_takeLast 5 = .ok (.astore_n 2, 1) := by decide +kernel
theorem dX9_takeLast_6 : decode cX9_takeLast 6 = .ok (.aload_n 2, 1) := by decide +kernel
theorem dX9_takeLast_7 : decode cX9_takeLast 7 = .ok (.invokevirtual 98, 3) := by decide +kernel
theorem dX9_takeLast_10 : decode cX9_takeLast 10 = .ok (.ifCond .ne 13, 3) := by decide +kernel
theorem dX9_takeLast_13 : decode cX9_takeLast 13 = .ok (.new 102, 3) := by decide +kernel
theorem dX9_takeLast_16 : decode cX9_takeLast 16 = .ok (.dup, 1) := by decide +kernel
theorem dX9_takeLast_17 : decode cX9_takeLast 17 = .ok (.ldc 104, 2) := by decide +kernel
theorem dX9_takeLast_19 : decode cX9_takeLast 19 = .ok (.invokespecial 106, 3) := by decide +kernel
theorem dX9_takeLast_22 : decode cX9_takeLast 22 = .ok (.athrow, 1) := by decide +kernel
theorem dX9_takeLast_23 : decode cX9_takeLast 23 = .ok (.aload_n 0, 1) := by decide +kernel
theorem dX9_takeLast_24 : decode cX9_takeLast 24 = .ok (.invokevirtual 91, 3) := by decide +kernel
theorem dX9_takeLast_27 : decode cX9_takeLast 27 = .ok (.aload_n 2, 1) := by decide +kernel
theorem dX9_takeLast_28 : decode cX9_takeLast 28 = .ok (.invokevirtual 109, 3) := by decide +kernel
theorem dX9_takeLast_31 : decode cX9_takeLast 31 = .ok (.ireturn, 1) := by decide +kernel
theorem dX9_setPitch_0 : decode cX9_setPitch 0 = .ok (.aload_n 0, 1) := by decide +kernel
theorem dX9_setPitch_1 : decode cX9_setPitch 1 = .ok (.iload_n 1, 1) := by decide +kernel
theorem dX9_setPitch_2 : decode cX9_setPitch 2 = .ok (.iload_n 2, 1) := by decide +kernel
theorem dX9_setPitch_3 : decode cX9_setPitch 3 = .ok (.invokevirtual 112, 3) := by decide +kernel
theorem dX9_setPitch_6 : decode cX9_setPitch 6 = .ok (.astore 5, 2) := by decide +kernel
theorem dX9_setPitch_8 : decode cX9_setPitch 8 = .ok (.iload_n 3, 1) := by decide +kernel
theorem dX9_setPitch_9 : decode cX9_setPitch 9 = .ok (.iload 4, 2) := by decide +kernel
theorem dX9_setPitch_11 : decode cX9_setPitch 11 = .ok (.invokestatic 79, 3) := by decide +kernel
theorem dX9_setPitch_14 : decode cX9_setPitch 14 = .ok (.aload 5, 2) := by decide +kernel
theorem dX9_setPitch_16 : decode cX9_setPitch 16 = .ok (.iload_n 2, 1) := by decide +kernel
theorem dX9_setPitch_17 : decode cX9_setPitch 17 = .ok (.invokestatic 116, 3) := by decide +kernel
theorem dX9_setPitch_20 : decode cX9_setPitch 20 = .ok (.aload 5, 2) := by decide +kernel
theorem dX9_setPitch_22 : decode cX9_setPitch 22 = .ok (.iload_n 2, 1) := by decide +kernel
theorem dX9_setPitch_23 : decode cX9_setPitch 23 = .ok (.invokevirtual 119, 3) := by decide +kernel
theorem dX9_setPitch_26 : decode cX9_setPitch 26 = .ok (.istore 6, 2) := by decide +kernel
theorem dX9_setPitch_28 : decode cX9_setPitch 28 = .ok (.aload_n 0, 1) := by decide +kernel
theorem dX9_setPitch_29 : decode cX9_setPitch 29 = .ok (.invokevirtual 91, 3) := by decide +kernel
theorem dX9_setPitch_32 : decode cX9_setPitch 32 = .ok (.aload 5, 2) := by decide +kernel
theorem dX9_setPitch_34 : decode cX9_setPitch 34 = .ok (.iload_n 2, 1) := by decide +kernel
theorem dX9_setPitch_35 : decode cX9_setPitch 35 = .ok (.iload_n 3, 1) := by decide +kernel
theorem dX9_setPitch_36 : decode cX9_setPitch 36 = .ok (.iload 4, 2) := by decide +kernel
theorem dX9_setPitch_38 : decode cX9_setPitch 38 = .ok (.invokevirtual 123, 3) := by decide +kernel
theorem dX9_setPitch_41 : decode cX9_setPitch 41 = .ok (.iload 6, 2) := by decide +kernel
theorem dX9_setPitch_43 : decode cX9_setPitch 43 = .ok (.ireturn, 1) := by decide +kernel
theorem dX9_setMetre_0 : decode cX9_setMetre 0 = .ok (.iload_n 1, 1) := by decide +kernel
theorem dX9_setMetre_1 : decode cX9_setMetre 1 = .ok (.invokestatic 127, 3) := by decide +kernel
theorem dX9_setMetre_4 : decode cX9_setMetre 4 = .ok (.iload_n 2, 1) := by decide +kernel
theorem dX9_setMetre_5 : decode cX9_setMetre 5 = .ok (.iconst 1, 1) := by decide +kernel
theorem dX9_setMetre_6 : decode cX9_setMetre 6 = .ok (.if_icmp .lt 25, 3) := by decide +kernel
theorem dX9_setMetre_9 : decode cX9_setMetre 9 = .ok (.iload_n 2, 1) := by decide +kernel
theorem dX9_setMetre_10 : decode cX9_setMetre 10 = .ok (.bipush 12, 2) := by decide +kernel
theorem dX9_setMetre_12 : decode cX9_setMetre 12 = .ok (.if_icmp .gt 19, 3) := by decide +kernel
theorem dX9_setMetre_15 : decode cX9_setMetre 15 = .ok (.iload_n 3, 1) := by decide +kernel
theorem dX9_setMetre_16 : decode cX9_setMetre 16 = .ok (.iconst 2, 1) := by decide +kernel
theorem dX9_setMetre_17 : decode cX9_setMetre 17 = .ok (.if_icmp .eq 24, 3) := by decide +kernel
theorem dX9_setMetre_20 : decode cX9_setMetre 20 = .ok (.iload_n 3, 1) := by decide +kernel
theorem dX9_setMetre_21 : decode cX9_setMetre 21 = .ok (.iconst 4, 1) := by decide +kernel
theorem dX9_setMetre_22 : decode cX9_setMetre 22 = .ok (.if_icmp .eq 19, 3) := by decide +kernel
theorem dX9_setMetre_25 : decode cX9_setMetre 25 = .ok (.iload_n 3, 1) := by decide +kernel
theorem dX9_setMetre_26 : decode cX9_setMetre 26 = .ok (.bipush 8, 2) := by decide +kernel
theorem dX9_setMetre_28 : decode cX9_setMetre 28 = .ok (.if_icmp .eq 13, 3) := by decide +kernel
theorem dX9_setMetre_31 : decode cX9_setMetre 31 = .ok (.new 130, 3) := by decide +kernel
theorem dX9_setMetre_34 : decode cX9_setMetre 34 = .ok (.dup, 1) := by decide +kernel
theorem dX9_setMetre_35 : decode cX9_setMetre 35 = .ok (.ldc 132, 2) := by decide +kernel
theorem dX9_setMetre_37 : decode cX9_setMetre 37 = .ok (.invokespecial 134, 3) := by decide +kernel
theorem dX9_setMetre_40 : decode cX9_setMetre 40 = .ok (.athrow, 1) := by decide +kernel
theorem dX9_setMetre_41 : decode cX9_setMetre 41 = .ok (.aload_n 0, 1) := by decide +kernel
theorem dX9_setMetre_42 : decode cX9_setMetre 42 = .ok (.invokevirtual 91, 3) := by decide +kernel
theorem dX9_setMetre_45 : decode cX9_setMetre 45 = .ok (.aload_n 0, 1) := by decide +kernel
theorem dX9_setMetre_46 : decode cX9_setMetre 46 = .ok (.getfield 19, 3) := by decide +kernel
theorem dX9_setMetre_49 : decode cX9_setMetre 49 = .ok (.iload_n 1, 1) := by decide +kernel
theorem dX9_setMetre_50 : decode cX9_setMetre 50 = .ok (.iload_n 2, 1) := by decide +kernel
theorem dX9_setMetre_51 : decode cX9_setMetre 51 = .ok (.iload_n 3, 1) := by decide +kernel
theorem dX9_setMetre_52 : decode cX9_setMetre 52 = .ok (.invokevirtual 135, 3) := by decide +kernel
theorem dX9_setMetre_55 : decode cX9_setMetre 55 = .ok (.aload_n 0, 1) := by decide +kernel
theorem dX9_setMetre_56 : decode cX9_setMetre 56 = .ok (.getfield 19, 3) := by decide +kernel
theorem dX9_setMetre_59 : decode cX9_setMetre 59 = .ok (.iload_n 1, 1) := by decide +kernel
theorem dX9_setMetre_60 : decode cX9_setMetre 60 = .ok (.invokevirtual 138, 3) := by decide +kernel
theorem dX9_setMetre_63 : decode cX9_setMetre 63 = .ok (.ireturn, 1) := by decide +kernel
theorem dX9_setKey_0 : decode cX9_setKey 0 = .ok (.iload_n 1, 1) := by decide +kernel
theorem dX9_setKey_1 : decode cX9_setKey 1 = .ok (.invokestatic 127, 3) := by decide +kernel
theorem dX9_setKey_4 : decode cX9_setKey 4 = .ok (.iload_n 2, 1) := by decide +kernel
theorem dX9_setKey_5 : decode cX9_setKey 5 = .ok (.invokestatic 141, 3) := by decide +kernel
theorem dX9_setKey_8 : decode cX9_setKey 8 = .ok (.aload_n 0, 1) := by decide +kernel
theorem dX9_setKey_9 : decode cX9_setKey 9 = .ok (.getfield 19, 3) := by decide +kernel
theorem dX9_setKey_12 : decode cX9_setKey 12 = .ok (.iload_n 1, 1) := by decide +kernel
theorem dX9_setKey_13 : decode cX9_setKey 13 = .ok (.invokevirtual 144, 3) := by decide +kernel
theorem dX9_setKey_16 : decode cX9_setKey 16 = .ok (.istore_n 3, 1) := by decide +kernel
theorem dX9_setKey_17 : decode cX9_setKey 17 = .ok (.aload_n 0, 1) := by decide +kernel
theorem dX9_setKey_18 : decode cX9_setKey 18 = .ok (.invokevirtual 91, 3) := by decide +kernel
theorem dX9_setKey_21 : decode cX9_setKey 21 = .ok (.aload_n 0, 1) := by decide +kernel
theorem dX9_setKey_22 : decode cX9_setKey 22 = .ok (.getfield 19, 3) := by decide +kernel
theorem dX9_setKey_25 : decode cX9_setKey 25 = .ok (.iload_n 1, 1) := by decide +kernel
theorem dX9_setKey_26 : decode cX9_setKey 26 = .ok (.iload_n 2, 1) := by decide +kernel
theorem dX9_setKey_27 : decode cX9_setKey 27 = .ok (.invokevirtual 147, 3) := by decide +kernel
theorem dX9_setKey_30 : decode cX9_setKey 30 = .ok (.iload_n 3, 1) := by decide +kernel
theorem dX9_setKey_31 : decode cX9_setKey 31 = .ok (.ireturn, 1) := by decide +kernel
theorem dX9_setRange_0 : decode cX9_setRange 0 = .ok (.aload_n 0, 1) := by decide +kernel
theorem dX9_setRange_1 : decode cX9_setRange 1 = .ok (.iload_n 1, 1) := by decide +kernel
theorem dX9_setRange_2 : decode cX9_setRange 2 = .ok (.invokevirtual 75, 3) := by decide +kernel
theorem dX9_setRange_5 : decode cX9_setRange 5 = .ok (.astore 4, 2) := by decide +kernel
theorem dX9_setRange_7 : decode cX9_setRange 7 = .ok (.iload_n 2, 1) := by decide +kernel
theorem dX9_setRange_8 : decode cX9_setRange 8 = .ok (.iconst 1, 1) := by decide +kernel
theorem dX9_setRange_9 : decode cX9_setRange 9 = .ok (.if_icmp .lt 20, 3) := by decide +kernel
theorem dX9_setRange_12 : decode cX9_setRange 12 = .ok (.iload_n 2, 1) := by decide +kernel
theorem dX9_setRange_13 : decode cX9_setRange 13 = .ok (.bipush 62, 2) := by decide +kernel
theorem dX9_setRange_15 : decode cX9_setRange 15 = .ok (.if_icmp .gt 14, 3) := by decide +kernel
theorem dX9_setRange_18 : decode cX9_setRange 18 = .ok (.iload_n 3, 1) := by decide +kernel
theorem dX9_setRange_19 : decode cX9_setRange 19 = .ok (.iload_n 2, 1) := by decide +kernel
theorem dX9_setRange_20 : decode cX9_setRange 20 = .ok (.if_icmp .lt 9, 3) := by decide +kernel
theorem dX9_setRange_23 : decode cX9_setRange 23 = .ok (.iload_n 3, 1) := by decide +kernel
theorem dX9_setRange_24 : decode cX9_setRange 24 = .ok (.bipush 62, 2) := by decide +kernel
theorem dX9_setRange_26 : decode cX9_setRange 26 = .ok (.if_icmp .le 13, 3) := by decide +kernel
theorem dX9_setRange_29 : decode cX9_setRange 29 = .ok (.new 130, 3) := by decide +kernel
theorem dX9_setRange_32 : decode cX9_setRange 32 = .ok (.dup, 1) := by decide +kernel
theorem dX9_setRange_33 : decode cX9_setRange 33 = .ok (.ldc 150, 2) := by decide +kernel
theorem dX9_setRange_35 : decode cX9_setRange 35 = .ok (.invokespecial 134, 3) := by decide +kernel
theorem dX9_setRange_38 : decode cX9_setRange 38 = .ok (.athrow, 1) := by decide +kernel
theorem dX9_setRange_39 : decode cX9_setRange 39 = .ok (.aload_n 0, 1) := by decide +kernel
theorem dX9_setRange_40 : decode cX9_setRange 40 = .ok (.invokevirtual 91, 3) := by decide +kernel
theorem dX9_setRange_43 : decode cX9_setRange 43 = .ok (.aload 4, 2) := by decide +kernel
theorem dX9_setRange_45 : decode cX9_setRange 45 = .ok (.iload_n 2, 1) := by decide +kernel
theorem dX9_setRange_46 : decode cX9_setRange 46 = .ok (.iload_n 3, 1) := by decide +kernel
theorem dX9_setRange_47 : decode cX9_setRange 47 = .ok (.invokevirtual 152, 3) := by decide +kernel
theorem dX9_setRange_50 : decode cX9_setRange 50 = .ok (.aload 4, 2) := by decide +kernel
theorem dX9_setRange_52 : decode cX9_setRange 52 = .ok (.invokevirtual 155, 3) := by decide +kernel
theorem dX9_setRange_55 : decode cX9_setRange 55 = .ok (.ireturn, 1) := by decide +kernel
theorem dX9_setShift_0 : decode cX9_setShift 0 = .ok (.aload_n 0, 1) := by decide +kernel
theorem dX9_setShift_1 : decode cX9_setShift 1 = .ok (.iload_n 1, 1) := by decide +kernel
theorem dX9_setShift_2 : decode cX9_setShift 2 = .ok (.invokevirtual 75, 3) := by decide +kernel
theorem dX9_setShift_5 : decode cX9_setShift 5 = .ok (.astore 4, 2) := by decide +kernel
theorem dX9_setShift_7 : decode cX9_setShift 7 = .ok (.iload_n 2, 1) := by decide +kernel
theorem dX9_setShift_8 : decode cX9_setShift 8 = .ok (.bipush (-6), 2) := by decide +kernel
theorem dX9_setShift_10 : decode cX9_setShift 10 = .ok (.if_icmp .lt 20, 3) := by decide +kernel
theorem dX9_setShift_13 : decode cX9_setShift 13 = .ok (.iload_n 2, 1) := by decide +kernel
theorem dX9_setShift_14 : decode cX9_setShift 14 = .ok (.bipush 6, 2) := by decide +kernel
theorem dX9_setShift_16 : decode cX9_setShift 16 = .ok (.if_icmp .gt 14, 3) := by decide +kernel
theorem dX9_setShift_19 : decode cX9_setShift 19 = .ok (.iload_n 3, 1) := by decide +kernel
theorem dX9_setShift_20 : decode cX9_setShift 20 = .ok (.bipush (-2), 2) := by decide +kernel
theorem dX9_setShift_22 : decode cX9_setShift 22 = .ok (.if_icmp .lt 8, 3) := by decide +kernel
theorem dX9_setShift_25 : decode cX9_setShift 25 = .ok (.iload_n 3, 1) := by decide +kernel
theorem dX9_setShift_26 : decode cX9_setShift 26 = .ok (.iconst 2, 1) := by decide +kernel
theorem dX9_setShift_27 : decode cX9_setShift 27 = .ok (.if_icmp .le 13, 3) := by decide +kernel
theorem dX9_setShift_30 : decode cX9_setShift 30 = .ok (.new 130, 3) := by decide +kernel
theorem dX9_setShift_33 : decode cX9_setShift 33 = .ok (.dup, 1) := by decide +kernel
theorem dX9_setShift_34 : decode cX9_setShift 34 = .ok (.ldc 158, 2) := by decide +kernel
theorem dX9_setShift_36 : decode cX9_setShift 36 = .ok (.invokespecial 134, 3) := by decide +kernel
theorem dX9_setShift_39 : decode cX9_setShift 39 = .ok (.athrow, 1) := by decide +kernel
theorem dX9_setShift_40 : decode cX9_setShift 40 = .ok (.aload_n 0, 1) := by decide +kernel
theorem dX9_setShift_41 : decode cX9_setShift 41 = .ok (.invokevirtual 91, 3) := by decide +kernel
theorem dX9_setShift_44 : decode cX9_setShift 44 = .ok (.aload 4, 2) := by decide +kernel
theorem dX9_setShift_46 : decode cX9_setShift 46 = .ok (.iload_n 2, 1) := by decide +kernel
theorem dX9_setShift_47 : decode cX9_setShift 47 = .ok (.iload_n 3, 1) := by decide +kernel
theorem dX9_setShift_48 : decode cX9_setShift 48 = .ok (.invokevirtual 160, 3) := by decide +kernel
theorem dX9_setShift_51 : decode cX9_setShift 51 = .ok (.aload 4, 2) := by decide +kernel
theorem dX9_setShift_53 : decode cX9_setShift 53 = .ok (.invokevirtual 163, 3) := by decide +kernel
theorem dX9_setShift_56 : decode cX9_setShift 56 = .ok (.ireturn, 1) := by decide +kernel
theorem dX9_events_0 : decode cX9_events 0 = .ok (.aload_n 0, 1) := by decide +kernel
theorem dX9_events_1 : decode cX9_events 1 = .ok (.iload_n 1, 1) := by decide +kernel
theorem dX9_events_2 : decode cX9_events 2 = .ok (.invokevirtual 75, 3) := by decide +kernel
theorem dX9_events_5 : decode cX9_events 5 = .ok (.invokevirtual 98, 3) := by decide +kernel
theorem dX9_events_8 : decode cX9_events 8 = .ok (.ireturn, 1) := by decide +kernel
theorem dX9_heightOf_0 : decode cX9_heightOf 0 = .ok (.aload_n 0, 1) := by decide +kernel
theorem dX9_heightOf_1 : decode cX9_heightOf 1 = .ok (.iload_n 1, 1) := by decide +kernel
theorem dX9_heightOf_2 : decode cX9_heightOf 2 = .ok (.iload_n 2, 1) := by decide +kernel
theorem dX9_heightOf_3 : decode cX9_heightOf 3 = .ok (.invokevirtual 112, 3) := by decide +kernel
theorem dX9_heightOf_6 : decode cX9_heightOf 6 = .ok (.iload_n 2, 1) := by decide +kernel
theorem dX9_heightOf_7 : decode cX9_heightOf 7 = .ok (.invokevirtual 119, 3) := by decide +kernel
theorem dX9_heightOf_10 : decode cX9_heightOf 10 = .ok (.ireturn, 1) := by decide +kernel
theorem dX9_writtenPlace_0 : decode cX9_writtenPlace 0 = .ok (.aload_n 0, 1) := by decide +kernel
theorem dX9_writtenPlace_1 : decode cX9_writtenPlace 1 = .ok (.iload_n 1, 1) := by decide +kernel
theorem dX9_writtenPlace_2 : decode cX9_writtenPlace 2 = .ok (.iload_n 2, 1) := by decide +kernel
theorem dX9_writtenPlace_3 : decode cX9_writtenPlace 3 = .ok (.invokevirtual 112, 3) := by decide +kernel
theorem dX9_writtenPlace_6 : decode cX9_writtenPlace 6 = .ok (.iload_n 2, 1) := by decide +kernel
theorem dX9_writtenPlace_7 : decode cX9_writtenPlace 7 = .ok (.invokevirtual 172, 3) := by decide +kernel
theorem dX9_writtenPlace_10 : decode cX9_writtenPlace 10 = .ok (.ireturn, 1) := by decide +kernel
theorem dX9_writtenAlter_0 : decode cX9_writtenAlter 0 = .ok (.aload_n 0, 1) := by decide +kernel
theorem dX9_writtenAlter_1 : decode cX9_writtenAlter 1 = .ok (.iload_n 1, 1) := by decide +kernel
theorem dX9_writtenAlter_2 : decode cX9_writtenAlter 2 = .ok (.iload_n 2, 1) := by decide +kernel
theorem dX9_writtenAlter_3 : decode cX9_writtenAlter 3 = .ok (.invokevirtual 112, 3) := by decide +kernel
theorem dX9_writtenAlter_6 : decode cX9_writtenAlter 6 = .ok (.iload_n 2, 1) := by decide +kernel
theorem dX9_writtenAlter_7 : decode cX9_writtenAlter 7 = .ok (.invokevirtual 175, 3) := by decide +kernel
theorem dX9_writtenAlter_10 : decode cX9_writtenAlter 10 = .ok (.ireturn, 1) := by decide +kernel
theorem dX9_beginOfBar_0 : decode cX9_beginOfBar 0 = .ok (.iload_n 1, 1) := by decide +kernel
theorem dX9_beginOfBar_1 : decode cX9_beginOfBar 1 = .ok (.invokestatic 127, 3) := by decide +kernel
theorem dX9_beginOfBar_4 : decode cX9_beginOfBar 4 = .ok (.aload_n 0, 1) := by decide +kernel
theorem dX9_beginOfBar_5 : decode cX9_beginOfBar 5 = .ok (.getfield 19, 3) := by decide +kernel
theorem dX9_beginOfBar_8 : decode cX9_beginOfBar 8 = .ok (.iload_n 1, 1) := by decide +kernel
theorem dX9_beginOfBar_9 : decode cX9_beginOfBar 9 = .ok (.invokevirtual 189, 3) := by decide +kernel
theorem dX9_beginOfBar_12 : decode cX9_beginOfBar 12 = .ok (.ireturn, 1) := by decide +kernel
theorem dX9_lengthOfBar_0 : decode cX9_lengthOfBar 0 = .ok (.iload_n 1, 1) := by decide +kernel
theorem dX9_lengthOfBar_1 : decode cX9_lengthOfBar 1 = .ok (.invokestatic 127, 3) := by decide +kernel
theorem dX9_lengthOfBar_4 : decode cX9_lengthOfBar 4 = .ok (.aload_n 0, 1) := by decide +kernel
theorem dX9_lengthOfBar_5 : decode cX9_lengthOfBar 5 = .ok (.getfield 19, 3) := by decide +kernel
theorem dX9_lengthOfBar_8 : decode cX9_lengthOfBar 8 = .ok (.iload_n 1, 1) := by decide +kernel
theorem dX9_lengthOfBar_9 : decode cX9_lengthOfBar 9 = .ok (.invokevirtual 138, 3) := by decide +kernel
theorem dX9_lengthOfBar_12 : decode cX9_lengthOfBar 12 = .ok (.ireturn, 1) := by decide +kernel
theorem dX9_signs_0 : decode cX9_signs 0 = .ok (.aload_n 0, 1) := by decide +kernel
theorem dX9_signs_1 : decode cX9_signs 1 = .ok (.iload_n 1, 1) := by decide +kernel
theorem dX9_signs_2 : decode cX9_signs 2 = .ok (.iload_n 2, 1) := by decide +kernel
theorem dX9_signs_3 : decode cX9_signs 3 = .ok (.invokevirtual 190, 3) := by decide +kernel
theorem dX9_signs_6 : decode cX9_signs 6 = .ok (.invokevirtual 194, 3) := by decide +kernel
theorem dX9_signs_9 : decode cX9_signs 9 = .ok (.ireturn, 1) := by decide +kernel
theorem dX9_eventOf_0 : decode cX9_eventOf 0 = .ok (.aload_n 0, 1) := by decide +kernel
theorem dX9_eventOf_1 : decode cX9_eventOf 1 = .ok (.iload_n 1, 1) := by decide +kernel
theorem dX9_eventOf_2 : decode cX9_eventOf 2 = .ok (.iload_n 2, 1) := by decide +kernel
theorem dX9_eventOf_3 : decode cX9_eventOf 3 = .ok (.iload_n 3, 1) := by decide +kernel
theorem dX9_eventOf_4 : decode cX9_eventOf 4 = .ok (.invokevirtual 195, 3) := by decide +kernel
theorem dX9_eventOf_7 : decode cX9_eventOf 7 = .ok (.iload_n 3, 1) := by decide +kernel
theorem dX9_eventOf_8 : decode cX9_eventOf 8 = .ok (.invokevirtual 199, 3) := by decide +kernel
theorem dX9_eventOf_11 : decode cX9_eventOf 11 = .ok (.ireturn, 1) := by decide +kernel
theorem dX9_lengthOf_0 : decode cX9_lengthOf 0 = .ok (.aload_n 0, 1) := by decide +kernel
theorem dX9_lengthOf_1 : decode cX9_lengthOf 1 = .ok (.iload_n 1, 1) := by decide +kernel
theorem dX9_lengthOf_2 : decode cX9_lengthOf 2 = .ok (.iload_n 2, 1) := by decide +kernel
theorem dX9_lengthOf_3 : decode cX9_lengthOf 3 = .ok (.iload_n 3, 1) := by decide +kernel
theorem dX9_lengthOf_4 : decode cX9_lengthOf 4 = .ok (.invokevirtual 195, 3) := by decide +kernel
theorem dX9_lengthOf_7 : decode cX9_lengthOf 7 = .ok (.iload_n 3, 1) := by decide +kernel
theorem dX9_lengthOf_8 : decode cX9_lengthOf 8 = .ok (.invokevirtual 202, 3) := by decide +kernel
theorem dX9_lengthOf_11 : decode cX9_lengthOf 11 = .ok (.ireturn, 1) := by decide +kernel
theorem dX9_isTied_0 : decode cX9_isTied 0 = .ok (.aload_n 0, 1) := by decide +kernel
theorem dX9_isTied_1 : decode cX9_isTied 1 = .ok (.iload_n 1, 1) := by decide +kernel
theorem dX9_isTied_2 : decode cX9_isTied 2 = .ok (.iload_n 2, 1) := by decide +kernel
theorem dX9_isTied_3 : decode cX9_isTied 3 = .ok (.iload_n 3, 1) := by decide +kernel
theorem dX9_isTied_4 : decode cX9_isTied 4 = .ok (.invokevirtual 195, 3) := by decide +kernel
theorem dX9_isTied_7 : decode cX9_isTied 7 = .ok (.iload_n 3, 1) := by decide +kernel
theorem dX9_isTied_8 : decode cX9_isTied 8 = .ok (.invokevirtual 203, 3) := by decide +kernel
theorem dX9_isTied_11 : decode cX9_isTied 11 = .ok (.ireturn, 1) := by decide +kernel
theorem dX9_shown_0 : decode cX9_shown 0 = .ok (.aload_n 0, 1) := by decide +kernel
theorem dX9_shown_1 : decode cX9_shown 1 = .ok (.iload_n 1, 1) := by decide +kernel
theorem dX9_shown_2 : decode cX9_shown 2 = .ok (.iload_n 2, 1) := by decide +kernel
theorem dX9_shown_3 : decode cX9_shown 3 = .ok (.iload_n 3, 1) := by decide +kernel
theorem dX9_shown_4 : decode cX9_shown 4 = .ok (.invokevirtual 195, 3) := by decide +kernel
theorem dX9_shown_7 : decode cX9_shown 7 = .ok (.iload_n 3, 1) := by decide +kernel
theorem dX9_shown_8 : decode cX9_shown 8 = .ok (.invokevirtual 207, 3) := by decide +kernel
theorem dX9_shown_11 : decode cX9_shown 11 = .ok (.ireturn, 1) := by decide +kernel
theorem dX9_shownWritten_0 : decode cX9_shownWritten 0 = .ok (.aload_n 0, 1) := by decide +kernel
theorem dX9_shownWritten_1 : decode cX9_shownWritten 1 = .ok (.iload_n 1, 1) := by decide +kernel
theorem dX9_shownWritten_2 : decode cX9_shownWritten 2 = .ok (.iload_n 2, 1) := by decide +kernel
theorem dX9_shownWritten_3 : decode cX9_shownWritten 3 = .ok (.iload_n 3, 1) := by decide +kernel
theorem dX9_shownWritten_4 : decode cX9_shownWritten 4 = .ok (.invokevirtual 195, 3) := by decide +kernel
theorem dX9_shownWritten_7 : decode cX9_shownWritten 7 = .ok (.iload_n 3, 1) := by decide +kernel
theorem dX9_shownWritten_8 : decode cX9_shownWritten 8 = .ok (.invokevirtual 210, 3) := by decide +kernel
theorem dX9_shownWritten_11 : decode cX9_shownWritten 11 = .ok (.ireturn, 1) := by decide +kernel
theorem dX9_beams_0 : decode cX9_beams 0 = .ok (.aload_n 0, 1) := by decide +kernel
theorem dX9_beams_1 : decode cX9_beams 1 = .ok (.iload_n 1, 1) := by decide +kernel
theorem dX9_beams_2 : decode cX9_beams 2 = .ok (.iload_n 2, 1) := by decide +kernel
theorem dX9_beams_3 : decode cX9_beams 3 = .ok (.invokevirtual 190, 3) := by decide +kernel
theorem dX9_beams_6 : decode cX9_beams 6 = .ok (.invokevirtual 213, 3) := by decide +kernel
theorem dX9_beams_9 : decode cX9_beams 9 = .ok (.ireturn, 1) := by decide +kernel
theorem dX9_beamOf_0 : decode cX9_beamOf 0 = .ok (.aload_n 0, 1) := by decide +kernel
theorem dX9_beamOf_1 : decode cX9_beamOf 1 = .ok (.iload_n 1, 1) := by decide +kernel
theorem dX9_beamOf_2 : decode cX9_beamOf 2 = .ok (.iload_n 2, 1) := by decide +kernel
theorem dX9_beamOf_3 : decode cX9_beamOf 3 = .ok (.iload_n 3, 1) := by decide +kernel
theorem dX9_beamOf_4 : decode cX9_beamOf 4 = .ok (.invokevirtual 195, 3) := by decide +kernel
theorem dX9_beamOf_7 : decode cX9_beamOf 7 = .ok (.iload_n 3, 1) := by decide +kernel
theorem dX9_beamOf_8 : decode cX9_beamOf 8 = .ok (.invokevirtual 216, 3) := by decide +kernel
theorem dX9_beamOf_11 : decode cX9_beamOf 11 = .ok (.ireturn, 1) := by decide +kernel
theorem dX9_missing_0 : decode cX9_missing 0 = .ok (.aload_n 0, 1) := by decide +kernel
theorem dX9_missing_1 : decode cX9_missing 1 = .ok (.iload_n 1, 1) := by decide +kernel
theorem dX9_missing_2 : decode cX9_missing 2 = .ok (.invokevirtual 75, 3) := by decide +kernel
theorem dX9_missing_5 : decode cX9_missing 5 = .ok (.astore_n 3, 1) := by decide +kernel
theorem dX9_missing_6 : decode cX9_missing 6 = .ok (.iload_n 2, 1) := by decide +kernel
theorem dX9_missing_7 : decode cX9_missing 7 = .ok (.invokestatic 127, 3) := by decide +kernel
theorem dX9_missing_10 : decode cX9_missing 10 = .ok (.aload_n 0, 1) := by decide +kernel
theorem dX9_missing_11 : decode cX9_missing 11 = .ok (.getfield 19, 3) := by decide +kernel
theorem dX9_missing_14 : decode cX9_missing 14 = .ok (.aload_n 3, 1) := by decide +kernel
theorem dX9_missing_15 : decode cX9_missing 15 = .ok (.invokevirtual 219, 3) := by decide +kernel
theorem dX9_missing_18 : decode cX9_missing 18 = .ok (.iload_n 2, 1) := by decide +kernel
theorem dX9_missing_19 : decode cX9_missing 19 = .ok (.invokevirtual 222, 3) := by decide +kernel
theorem dX9_missing_22 : decode cX9_missing 22 = .ok (.ireturn, 1) := by decide +kernel
theorem dX9_moments_0 : decode cX9_moments 0 = .ok (.aload_n 0, 1) := by decide +kernel
theorem dX9_moments_1 : decode cX9_moments 1 = .ok (.invokevirtual 225, 3) := by decide +kernel
theorem dX9_moments_4 : decode cX9_moments 4 = .ok (.aload_n 0, 1) := by decide +kernel
theorem dX9_moments_5 : decode cX9_moments 5 = .ok (.getfield 33, 3) := by decide +kernel
theorem dX9_moments_8 : decode cX9_moments 8 = .ok (.invokevirtual 228, 3) := by decide +kernel
theorem dX9_moments_11 : decode cX9_moments 11 = .ok (.ireturn, 1) := by decide +kernel
theorem dX9_tickOf_0 : decode cX9_tickOf 0 = .ok (.aload_n 0, 1) := by decide +kernel
theorem dX9_tickOf_1 : decode cX9_tickOf 1 = .ok (.iload_n 1, 1) := by decide +kernel
theorem dX9_tickOf_2 : decode cX9_tickOf 2 = .ok (.invokevirtual 229, 3) := by decide +kernel
theorem dX9_tickOf_5 : decode cX9_tickOf 5 = .ok (.aload_n 0, 1) := by decide +kernel
theorem dX9_tickOf_6 : decode cX9_tickOf 6 = .ok (.getfield 33, 3) := by decide +kernel
theorem dX9_tickOf_9 : decode cX9_tickOf 9 = .ok (.iload_n 1, 1) := by decide +kernel
theorem dX9_tickOf_10 : decode cX9_tickOf 10 = .ok (.invokevirtual 232, 3) := by decide +kernel
theorem dX9_tickOf_13 : decode cX9_tickOf 13 = .ok (.ireturn, 1) := by decide +kernel
theorem dX9_root_0 : decode cX9_root 0 = .ok (.aload_n 0, 1) := by decide +kernel
theorem dX9_root_1 : decode cX9_root 1 = .ok (.iload_n 1, 1) := by decide +kernel
theorem dX9_root_2 : decode cX9_root 2 = .ok (.invokevirtual 229, 3) := by decide +kernel
theorem dX9_root_5 : decode cX9_root 5 = .ok (.aload_n 0, 1) := by decide +kernel
theorem dX9_root_6 : decode cX9_root 6 = .ok (.iload_n 1, 1) := by decide +kernel
theorem dX9_root_7 : decode cX9_root 7 = .ok (.invokevirtual 237, 3) := by decide +kernel
theorem dX9_root_10 : decode cX9_root 10 = .ok (.invokevirtual 241, 3) := by decide +kernel
theorem dX9_root_13 : decode cX9_root 13 = .ok (.ireturn, 1) := by decide +kernel
theorem dX9_kind_0 : decode cX9_kind 0 = .ok (.aload_n 0, 1) := by decide +kernel
theorem dX9_kind_1 : decode cX9_kind 1 = .ok (.iload_n 1, 1) := by decide +kernel
theorem dX9_kind_2 : decode cX9_kind 2 = .ok (.invokevirtual 229, 3) := by decide +kernel
theorem dX9_kind_5 : decode cX9_kind 5 = .ok (.aload_n 0, 1) := by decide +kernel
theorem dX9_kind_6 : decode cX9_kind 6 = .ok (.iload_n 1, 1) := by decide +kernel
theorem dX9_kind_7 : decode cX9_kind 7 = .ok (.invokevirtual 237, 3) := by decide +kernel
theorem dX9_kind_10 : decode cX9_kind 10 = .ok (.invokevirtual 244, 3) := by decide +kernel
theorem dX9_kind_13 : decode cX9_kind 13 = .ok (.ireturn, 1) := by decide +kernel
theorem dX9_inversion_0 : decode cX9_inversion 0 = .ok (.aload_n 0, 1) := by decide +kernel
theorem dX9_inversion_1 : decode cX9_inversion 1 = .ok (.iload_n 1, 1) := by decide +kernel
theorem dX9_inversion_2 : decode cX9_inversion 2 = .ok (.invokevirtual 229, 3) := by decide +kernel
theorem dX9_inversion_5 : decode cX9_inversion 5 = .ok (.aload_n 0, 1) := by decide +kernel
theorem dX9_inversion_6 : decode cX9_inversion 6 = .ok (.iload_n 1, 1) := by decide +kernel
theorem dX9_inversion_7 : decode cX9_inversion 7 = .ok (.invokevirtual 237, 3) := by decide +kernel
theorem dX9_inversion_10 : decode cX9_inversion 10 = .ok (.invokevirtual 247, 3) := by decide +kernel
theorem dX9_inversion_13 : decode cX9_inversion 13 = .ok (.ireturn, 1) := by decide +kernel
theorem dX9_faults_0 : decode cX9_faults 0 = .ok (.aload_n 0, 1) := by decide +kernel
theorem dX9_faults_1 : decode cX9_faults 1 = .ok (.invokevirtual 250, 3) := by decide +kernel
theorem dX9_faults_4 : decode cX9_faults 4 = .ok (.aload_n 0, 1) := by decide +kernel
theorem dX9_faults_5 : decode cX9_faults 5 = .ok (.getfield 47, 3) := by decide +kernel
theorem dX9_faults_8 : decode cX9_faults 8 = .ok (.invokevirtual 253, 3) := by decide +kernel
theorem dX9_faults_11 : decode cX9_faults 11 = .ok (.ireturn, 1) := by decide +kernel
theorem dX9_kindOfFault_0 : decode cX9_kindOfFault 0 = .ok (.aload_n 0, 1) := by decide +kernel
theorem dX9_kindOfFault_1 : decode cX9_kindOfFault 1 = .ok (.invokevirtual 250, 3) := by decide +kernel
theorem dX9_kindOfFault_4 : decode cX9_kindOfFault 4 = .ok (.aload_n 0, 1) := by decide +kernel
theorem dX9_kindOfFault_5 : decode cX9_kindOfFault 5 = .ok (.iload_n 1, 1) := by decide +kernel
theorem dX9_kindOfFault_6 : decode cX9_kindOfFault 6 = .ok (.invokevirtual 254, 3) := by decide +kernel
theorem dX9_kindOfFault_9 : decode cX9_kindOfFault 9 = .ok (.aload_n 0, 1) := by decide +kernel
theorem dX9_kindOfFault_10 : decode cX9_kindOfFault 10 = .ok (.getfield 47, 3) := by decide +kernel
theorem dX9_kindOfFault_13 : decode cX9_kindOfFault 13 = .ok (.iload_n 1, 1) := by decide +kernel
theorem dX9_kindOfFault_14 : decode cX9_kindOfFault 14 = .ok (.invokevirtual 257, 3) := by decide +kernel
theorem dX9_kindOfFault_17 : decode cX9_kindOfFault 17 = .ok (.ireturn, 1) := by decide +kernel
theorem dX9_tickOfFault_0 : decode cX9_tickOfFault 0 = .ok (.aload_n 0, 1) := by decide +kernel
theorem dX9_tickOfFault_1 : decode cX9_tickOfFault 1 = .ok (.invokevirtual 250, 3) := by decide +kernel
theorem dX9_tickOfFault_4 : decode cX9_tickOfFault 4 = .ok (.aload_n 0, 1) := by decide +kernel
theorem dX9_tickOfFault_5 : decode cX9_tickOfFault 5 = .ok (.iload_n 1, 1) := by decide +kernel
theorem dX9_tickOfFault_6 : decode cX9_tickOfFault 6 = .ok (.invokevirtual 254, 3) := by decide +kernel
theorem dX9_tickOfFault_9 : decode cX9_tickOfFault 9 = .ok (.aload_n 0, 1) := by decide +kernel
theorem dX9_tickOfFault_10 : decode cX9_tickOfFault 10 = .ok (.getfield 47, 3) := by decide +kernel
theorem dX9_tickOfFault_13 : decode cX9_tickOfFault 13 = .ok (.iload_n 1, 1) := by decide +kernel
theorem dX9_tickOfFault_14 : decode cX9_tickOfFault 14 = .ok (.invokevirtual 260, 3) := by decide +kernel
theorem dX9_tickOfFault_17 : decode cX9_tickOfFault 17 = .ok (.ireturn, 1) := by decide +kernel
theorem dX9_partsOfFault_0 : decode cX9_partsOfFault 0 = .ok (.aload_n 0, 1) := by decide +kernel
theorem dX9_partsOfFault_1 : decode cX9_partsOfFault 1 = .ok (.invokevirtual 250, 3) := by decide +kernel
theorem dX9_partsOfFault_4 : decode cX9_partsOfFault 4 = .ok (.aload_n 0, 1) := by decide +kernel
theorem dX9_partsOfFault_5 : decode cX9_partsOfFault 5 = .ok (.iload_n 1, 1) := by decide +kernel
theorem dX9_partsOfFault_6 : decode cX9_partsOfFault 6 = .ok (.invokevirtual 254, 3) := by decide +kernel
theorem dX9_partsOfFault_9 : decode cX9_partsOfFault 9 = .ok (.aload_n 0, 1) := by decide +kernel
theorem dX9_partsOfFault_10 : decode cX9_partsOfFault 10 = .ok (.getfield 47, 3) := by decide +kernel
theorem dX9_partsOfFault_13 : decode cX9_partsOfFault 13 = .ok (.iload_n 1, 1) := by decide +kernel
theorem dX9_partsOfFault_14 : decode cX9_partsOfFault 14 = .ok (.invokevirtual 261, 3) := by decide +kernel
theorem dX9_partsOfFault_17 : decode cX9_partsOfFault 17 = .ok (.ireturn, 1) := by decide +kernel
theorem dX9_bars_0 : decode cX9_bars 0 = .ok (.aload_n 0, 1) := by decide +kernel
theorem dX9_bars_1 : decode cX9_bars 1 = .ok (.getfield 19, 3) := by decide +kernel
theorem dX9_bars_4 : decode cX9_bars 4 = .ok (.aload_n 0, 1) := by decide +kernel
theorem dX9_bars_5 : decode cX9_bars 5 = .ok (.invokevirtual 274, 3) := by decide +kernel
theorem dX9_bars_8 : decode cX9_bars 8 = .ok (.invokevirtual 277, 3) := by decide +kernel
theorem dX9_bars_11 : decode cX9_bars 11 = .ok (.ireturn, 1) := by decide +kernel
theorem dX9_widthOf_0 : decode cX9_widthOf 0 = .ok (.iload_n 1, 1) := by decide +kernel
theorem dX9_widthOf_1 : decode cX9_widthOf 1 = .ok (.invokestatic 127, 3) := by decide +kernel
theorem dX9_widthOf_4 : decode cX9_widthOf 4 = .ok (.aload_n 0, 1) := by decide +kernel
theorem dX9_widthOf_5 : decode cX9_widthOf 5 = .ok (.invokevirtual 280, 3) := by decide +kernel
theorem dX9_widthOf_8 : decode cX9_widthOf 8 = .ok (.aload_n 0, 1) := by decide +kernel
theorem dX9_widthOf_9 : decode cX9_widthOf 9 = .ok (.getfield 54, 3) := by decide +kernel
theorem dX9_widthOf_12 : decode cX9_widthOf 12 = .ok (.iload_n 1, 1) := by decide +kernel
theorem dX9_widthOf_13 : decode cX9_widthOf 13 = .ok (.invokevirtual 283, 3) := by decide +kernel
theorem dX9_widthOf_16 : decode cX9_widthOf 16 = .ok (.ireturn, 1) := by decide +kernel
theorem dX9_lines_0 : decode cX9_lines 0 = .ok (.iload_n 1, 1) := by decide +kernel
theorem dX9_lines_1 : decode cX9_lines 1 = .ok (.invokestatic 286, 3) := by decide +kernel
theorem dX9_lines_4 : decode cX9_lines 4 = .ok (.aload_n 0, 1) := by decide +kernel
theorem dX9_lines_5 : decode cX9_lines 5 = .ok (.invokevirtual 280, 3) := by decide +kernel
theorem dX9_lines_8 : decode cX9_lines 8 = .ok (.aload_n 0, 1) := by decide +kernel
theorem dX9_lines_9 : decode cX9_lines 9 = .ok (.iload_n 1, 1) := by decide +kernel
theorem dX9_lines_10 : decode cX9_lines 10 = .ok (.invokevirtual 289, 3) := by decide +kernel
theorem dX9_lines_13 : decode cX9_lines 13 = .ok (.aload_n 0, 1) := by decide +kernel
theorem dX9_lines_14 : decode cX9_lines 14 = .ok (.getfield 54, 3) := by decide +kernel
theorem dX9_lines_17 : decode cX9_lines 17 = .ok (.invokevirtual 292, 3) := by decide +kernel
theorem dX9_lines_20 : decode cX9_lines 20 = .ok (.ireturn, 1) := by decide +kernel
theorem dX9_lineOf_0 : decode cX9_lineOf 0 = .ok (.iload_n 2, 1) := by decide +kernel
theorem dX9_lineOf_1 : decode cX9_lineOf 1 = .ok (.invokestatic 127, 3) := by decide +kernel
theorem dX9_lineOf_4 : decode cX9_lineOf 4 = .ok (.iload_n 1, 1) := by decide +kernel
theorem dX9_lineOf_5 : decode cX9_lineOf 5 = .ok (.invokestatic 286, 3) := by decide +kernel
theorem dX9_lineOf_8 : decode cX9_lineOf 8 = .ok (.aload_n 0, 1) := by decide +kernel
theorem dX9_lineOf_9 : decode cX9_lineOf 9 = .ok (.invokevirtual 280, 3) := by decide +kernel
theorem dX9_lineOf_12 : decode cX9_lineOf 12 = .ok (.aload_n 0, 1) := by decide +kernel
theorem dX9_lineOf_13 : decode cX9_lineOf 13 = .ok (.iload_n 1, 1) := by decide +kernel
theorem dX9_lineOf_14 : decode cX9_lineOf 14 = .ok (.invokevirtual 289, 3) := by decide +kernel
theorem dX9_lineOf_17 : decode cX9_lineOf 17 = .ok (.aload_n 0, 1) := by decide +kernel
theorem dX9_lineOf_18 : decode cX9_lineOf 18 = .ok (.getfield 54, 3) := by decide +kernel
theorem dX9_lineOf_21 : decode cX9_lineOf 21 = .ok (.iload_n 2, 1) := by decide +kernel
theorem dX9_lineOf_22 : decode cX9_lineOf 22 = .ok (.invokevirtual 293, 3) := by decide +kernel
theorem dX9_lineOf_25 : decode cX9_lineOf 25 = .ok (.ireturn, 1) := by decide +kernel
theorem dX9_costOf_0 : decode cX9_costOf 0 = .ok (.iload_n 1, 1) := by decide +kernel
theorem dX9_costOf_1 : decode cX9_costOf 1 = .ok (.invokestatic 286, 3) := by decide +kernel
theorem dX9_costOf_4 : decode cX9_costOf 4 = .ok (.aload_n 0, 1) := by decide +kernel
theorem dX9_costOf_5 : decode cX9_costOf 5 = .ok (.invokevirtual 280, 3) := by decide +kernel
theorem dX9_costOf_8 : decode cX9_costOf 8 = .ok (.aload_n 0, 1) := by decide +kernel
theorem dX9_costOf_9 : decode cX9_costOf 9 = .ok (.iload_n 1, 1) := by decide +kernel
theorem dX9_costOf_10 : decode cX9_costOf 10 = .ok (.invokevirtual 289, 3) := by decide +kernel
theorem dX9_costOf_13 : decode cX9_costOf 13 = .ok (.aload_n 0, 1) := by decide +kernel
theorem dX9_costOf_14 : decode cX9_costOf 14 = .ok (.getfield 54, 3) := by decide +kernel
theorem dX9_costOf_17 : decode cX9_costOf 17 = .ok (.invokevirtual 296, 3) := by decide +kernel
theorem dX9_costOf_20 : decode cX9_costOf 20 = .ok (.ireturn, 1) := by decide +kernel
theorem dX9_digest_0 : decode cX9_digest 0 = .ok (.aload_n 0, 1) := by decide +kernel
theorem dX9_digest_1 : decode cX9_digest 1 = .ok (.invokevirtual 280, 3) := by decide +kernel
theorem dX9_digest_4 : decode cX9_digest 4 = .ok (.aload_n 0, 1) := by decide +kernel
theorem dX9_digest_5 : decode cX9_digest 5 = .ok (.invokevirtual 250, 3) := by decide +kernel
theorem dX9_digest_8 : decode cX9_digest 8 = .ok (.ldc2_w 305, 3) := by decide +kernel
theorem dX9_digest_11 : decode cX9_digest 11 = .ok (.lstore_n 1, 1) := by decide +kernel
theorem dX9_digest_12 : decode cX9_digest 12 = .ok (.iconst 0, 1) := by decide +kernel
theorem dX9_digest_13 : decode cX9_digest 13 = .ok (.istore_n 3, 1) := by decide +kernel
theorem dX9_digest_14 : decode cX9_digest 14 = .ok (.iload_n 3, 1) := by decide +kernel
theorem dX9_digest_15 : decode cX9_digest 15 = .ok (.aload_n 0, 1) := by decide +kernel
theorem dX9_digest_16 : decode cX9_digest 16 = .ok (.getfield 11, 3) := by decide +kernel
theorem dX9_digest_19 : decode cX9_digest 19 = .ok (.arraylength, 1) := by decide +kernel
theorem dX9_digest_20 : decode cX9_digest 20 = .ok (.if_icmp .ge 21, 3) := by decide +kernel
theorem dX9_digest_23 : decode cX9_digest 23 = .ok (.aload_n 0, 1) := by decide +kernel
theorem dX9_digest_24 : decode cX9_digest 24 = .ok (.lload_n 1, 1) := by decide +kernel
theorem dX9_digest_25 : decode cX9_digest 25 = .ok (.aload_n 0, 1) := by decide +kernel
theorem dX9_digest_26 : decode cX9_digest 26 = .ok (.getfield 11, 3) := by decide +kernel
theorem dX9_digest_29 : decode cX9_digest 29 = .ok (.iload_n 3, 1) := by decide +kernel
theorem dX9_digest_30 : decode cX9_digest 30 = .ok (.aaload, 1) := by decide +kernel
theorem dX9_digest_31 : decode cX9_digest 31 = .ok (.invokevirtual 307, 3) := by decide +kernel
theorem dX9_digest_34 : decode cX9_digest 34 = .ok (.lstore_n 1, 1) := by decide +kernel
theorem dX9_digest_35 : decode cX9_digest 35 = .ok (.iinc 3 1, 3) := by decide +kernel
theorem dX9_digest_38 : decode cX9_digest 38 = .ok (.goto (-24), 3) := by decide +kernel
theorem dX9_digest_41 : decode cX9_digest 41 = .ok (.iconst 0, 1) := by decide +kernel
theorem dX9_digest_42 : decode cX9_digest 42 = .ok (.istore_n 3, 1) := by decide +kernel
theorem dX9_digest_43 : decode cX9_digest 43 = .ok (.iload_n 3, 1) := by decide +kernel
theorem dX9_digest_44 : decode cX9_digest 44 = .ok (.bipush 24, 2) := by decide +kernel
theorem dX9_digest_46 : decode cX9_digest 46 = .ok (.if_icmp .ge 16, 3) := by decide +kernel
theorem dX9_digest_49 : decode cX9_digest 49 = .ok (.aload_n 0, 1) := by decide +kernel
theorem dX9_digest_50 : decode cX9_digest 50 = .ok (.lload_n 1, 1) := by decide +kernel
theorem dX9_digest_51 : decode cX9_digest 51 = .ok (.iload_n 3, 1) := by decide +kernel
theorem dX9_digest_52 : decode cX9_digest 52 = .ok (.invokevirtual 311, 3) := by decide +kernel
theorem dX9_digest_55 : decode cX9_digest 55 = .ok (.lstore_n 1, 1) := by decide +kernel
theorem dX9_digest_56 : decode cX9_digest 56 = .ok (.iinc 3 1, 3) := by decide +kernel
theorem dX9_digest_59 : decode cX9_digest 59 = .ok (.goto (-16), 3) := by decide +kernel
theorem dX9_digest_62 : decode cX9_digest 62 = .ok (.aload_n 0, 1) := by decide +kernel
theorem dX9_digest_63 : decode cX9_digest 63 = .ok (.lload_n 1, 1) := by decide +kernel
theorem dX9_digest_64 : decode cX9_digest 64 = .ok (.invokevirtual 315, 3) := by decide +kernel
theorem dX9_digest_67 : decode cX9_digest 67 = .ok (.lstore_n 1, 1) := by decide +kernel
theorem dX9_digest_68 : decode cX9_digest 68 = .ok (.aload_n 0, 1) := by decide +kernel
theorem dX9_digest_69 : decode cX9_digest 69 = .ok (.lload_n 1, 1) := by decide +kernel
theorem dX9_digest_70 : decode cX9_digest 70 = .ok (.invokevirtual 319, 3) := by decide +kernel
theorem dX9_digest_73 : decode cX9_digest 73 = .ok (.lstore_n 1, 1) := by decide +kernel
theorem dX9_digest_74 : decode cX9_digest 74 = .ok (.lload_n 1, 1) := by decide +kernel
theorem dX9_digest_75 : decode cX9_digest 75 = .ok (.aload_n 0, 1) := by decide +kernel
theorem dX9_digest_76 : decode cX9_digest 76 = .ok (.invokevirtual 322, 3) := by decide +kernel
theorem dX9_digest_79 : decode cX9_digest 79 = .ok (.i2l, 1) := by decide +kernel
theorem dX9_digest_80 : decode cX9_digest 80 = .ok (.invokestatic 325, 3) := by decide +kernel
theorem dX9_digest_83 : decode cX9_digest 83 = .ok (.lstore_n 1, 1) := by decide +kernel
theorem dX9_digest_84 : decode cX9_digest 84 = .ok (.aload_n 0, 1) := by decide +kernel
theorem dX9_digest_85 : decode cX9_digest 85 = .ok (.lload_n 1, 1) := by decide +kernel
theorem dX9_digest_86 : decode cX9_digest 86 = .ok (.bipush 40, 2) := by decide +kernel
theorem dX9_digest_88 : decode cX9_digest 88 = .ok (.invokevirtual 329, 3) := by decide +kernel
theorem dX9_digest_91 : decode cX9_digest 91 = .ok (.lstore_n 1, 1) := by decide +kernel
theorem dX9_digest_92 : decode cX9_digest 92 = .ok (.aload_n 0, 1) := by decide +kernel
theorem dX9_digest_93 : decode cX9_digest 93 = .ok (.lload_n 1, 1) := by decide +kernel
theorem dX9_digest_94 : decode cX9_digest 94 = .ok (.bipush 100, 2) := by decide +kernel
theorem dX9_digest_96 : decode cX9_digest 96 = .ok (.invokevirtual 329, 3) := by decide +kernel
theorem dX9_digest_99 : decode cX9_digest 99 = .ok (.lreturn, 1) := by decide +kernel
theorem dX9_mix_0 : decode cX9_mix 0 = .ok (.lload_n 0, 1) := by decide +kernel
theorem dX9_mix_1 : decode cX9_mix 1 = .ok (.ldc2_w 332, 3) := by decide +kernel
theorem dX9_mix_4 : decode cX9_mix 4 = .ok (.lmul, 1) := by decide +kernel
theorem dX9_mix_5 : decode cX9_mix 5 = .ok (.lload_n 2, 1) := by decide +kernel
theorem dX9_mix_6 : decode cX9_mix 6 = .ok (.ladd, 1) := by decide +kernel
theorem dX9_mix_7 : decode cX9_mix 7 = .ok (.lreturn, 1) := by decide +kernel
theorem dX9_mixPart_0 : decode cX9_mixPart 0 = .ok (.lload_n 1, 1) := by decide +kernel
theorem dX9_mixPart_1 : decode cX9_mixPart 1 = .ok (.aload_n 3, 1) := by decide +kernel
theorem dX9_mixPart_2 : decode cX9_mixPart 2 = .ok (.invokevirtual 98, 3) := by decide +kernel
theorem dX9_mixPart_5 : decode cX9_mixPart 5 = .ok (.i2l, 1) := by decide +kernel
theorem dX9_mixPart_6 : decode cX9_mixPart 6 = .ok (.invokestatic 325, 3) := by decide +kernel
theorem dX9_mixPart_9 : decode cX9_mixPart 9 = .ok (.lstore_n 1, 1) := by decide +kernel
theorem dX9_mixPart_10 : decode cX9_mixPart 10 = .ok (.iconst 0, 1) := by decide +kernel
theorem dX9_mixPart_11 : decode cX9_mixPart 11 = .ok (.istore 4, 2) := by decide +kernel
theorem dX9_mixPart_13 : decode cX9_mixPart 13 = .ok (.iload 4, 2) := by decide +kernel
theorem dX9_mixPart_15 : decode cX9_mixPart 15 = .ok (.aload_n 3, 1) := by decide +kernel
theorem dX9_mixPart_16 : decode cX9_mixPart 16 = .ok (.invokevirtual 98, 3) := by decide +kernel
theorem dX9_mixPart_19 : decode cX9_mixPart 19 = .ok (.if_icmp .ge 76, 3) := by decide +kernel
theorem dX9_mixPart_22 : decode cX9_mixPart 22 = .ok (.lload_n 1, 1) := by decide +kernel
theorem dX9_mixPart_23 : decode cX9_mixPart 23 = .ok (.aload_n 3, 1) := by decide +kernel
theorem dX9_mixPart_24 : decode cX9_mixPart 24 = .ok (.iload 4, 2) := by decide +kernel
theorem dX9_mixPart_26 : decode cX9_mixPart 26 = .ok (.invokevirtual 166, 3) := by decide +kernel
theorem dX9_mixPart_29 : decode cX9_mixPart 29 = .ok (.i2l, 1) := by decide +kernel
theorem dX9_mixPart_30 : decode cX9_mixPart 30 = .ok (.invokestatic 325, 3) := by decide +kernel
theorem dX9_mixPart_33 : decode cX9_mixPart 33 = .ok (.lstore_n 1, 1) := by decide +kernel
theorem dX9_mixPart_34 : decode cX9_mixPart 34 = .ok (.lload_n 1, 1) := by decide +kernel
theorem dX9_mixPart_35 : decode cX9_mixPart 35 = .ok (.aload_n 3, 1) := by decide +kernel
theorem dX9_mixPart_36 : decode cX9_mixPart 36 = .ok (.iload 4, 2) := by decide +kernel
theorem dX9_mixPart_38 : decode cX9_mixPart 38 = .ok (.invokevirtual 119, 3) := by decide +kernel
theorem dX9_mixPart_41 : decode cX9_mixPart 41 = .ok (.i2l, 1) := by decide +kernel
theorem dX9_mixPart_42 : decode cX9_mixPart 42 = .ok (.invokestatic 325, 3) := by decide +kernel
theorem dX9_mixPart_45 : decode cX9_mixPart 45 = .ok (.lstore_n 1, 1) := by decide +kernel
theorem dX9_mixPart_46 : decode cX9_mixPart 46 = .ok (.lload_n 1, 1) := by decide +kernel
theorem dX9_mixPart_47 : decode cX9_mixPart 47 = .ok (.aload_n 0, 1) := by decide +kernel
theorem dX9_mixPart_48 : decode cX9_mixPart 48 = .ok (.getfield 19, 3) := by decide +kernel
theorem dX9_mixPart_51 : decode cX9_mixPart 51 = .ok (.aload_n 3, 1) := by decide +kernel
theorem dX9_mixPart_52 : decode cX9_mixPart 52 = .ok (.iload 4, 2) := by decide +kernel
theorem dX9_mixPart_54 : decode cX9_mixPart 54 = .ok (.invokevirtual 166, 3) := by decide +kernel
theorem dX9_mixPart_57 : decode cX9_mixPart 57 = .ok (.invokevirtual 169, 3) := by decide +kernel
theorem dX9_mixPart_60 : decode cX9_mixPart 60 = .ok (.i2l, 1) := by decide +kernel
theorem dX9_mixPart_61 : decode cX9_mixPart 61 = .ok (.invokestatic 325, 3) := by decide +kernel
theorem dX9_mixPart_64 : decode cX9_mixPart 64 = .ok (.lstore_n 1, 1) := by decide +kernel
theorem dX9_mixPart_65 : decode cX9_mixPart 65 = .ok (.lload_n 1, 1) := by decide +kernel
theorem dX9_mixPart_66 : decode cX9_mixPart 66 = .ok (.aload_n 3, 1) := by decide +kernel
theorem dX9_mixPart_67 : decode cX9_mixPart 67 = .ok (.iload 4, 2) := by decide +kernel
theorem dX9_mixPart_69 : decode cX9_mixPart 69 = .ok (.invokevirtual 172, 3) := by decide +kernel
theorem dX9_mixPart_72 : decode cX9_mixPart 72 = .ok (.i2l, 1) := by decide +kernel
theorem dX9_mixPart_73 : decode cX9_mixPart 73 = .ok (.invokestatic 325, 3) := by decide +kernel
theorem dX9_mixPart_76 : decode cX9_mixPart 76 = .ok (.lstore_n 1, 1) := by decide +kernel
theorem dX9_mixPart_77 : decode cX9_mixPart 77 = .ok (.lload_n 1, 1) := by decide +kernel
theorem dX9_mixPart_78 : decode cX9_mixPart 78 = .ok (.aload_n 3, 1) := by decide +kernel
theorem dX9_mixPart_79 : decode cX9_mixPart 79 = .ok (.iload 4, 2) := by decide +kernel
theorem dX9_mixPart_81 : decode cX9_mixPart 81 = .ok (.invokevirtual 175, 3) := by decide +kernel
theorem dX9_mixPart_84 : decode cX9_mixPart 84 = .ok (.i2l, 1) := by decide +kernel
theorem dX9_mixPart_85 : decode cX9_mixPart 85 = .ok (.invokestatic 325, 3) := by decide +kernel
theorem dX9_mixPart_88 : decode cX9_mixPart 88 = .ok (.lstore_n 1, 1) := by decide +kernel
theorem dX9_mixPart_89 : decode cX9_mixPart 89 = .ok (.iinc 4 1, 3) := by decide +kernel
theorem dX9_mixPart_92 : decode cX9_mixPart 92 = .ok (.goto (-79), 3) := by decide +kernel
theorem dX9_mixPart_95 : decode cX9_mixPart 95 = .ok (.lload_n 1, 1) := by decide +kernel
theorem dX9_mixPart_96 : decode cX9_mixPart 96 = .ok (.lreturn, 1) := by decide +kernel
theorem dX9_mixBar_0 : decode cX9_mixBar 0 = .ok (.lload_n 1, 1) := by decide +kernel
theorem dX9_mixBar_1 : decode cX9_mixBar 1 = .ok (.aload_n 0, 1) := by decide +kernel
theorem dX9_mixBar_2 : decode cX9_mixBar 2 = .ok (.getfield 19, 3) := by decide +kernel
theorem dX9_mixBar_5 : decode cX9_mixBar 5 = .ok (.iload_n 3, 1) := by decide +kernel
theorem dX9_mixBar_6 : decode cX9_mixBar 6 = .ok (.invokevirtual 189, 3) := by decide +kernel
theorem dX9_mixBar_9 : decode cX9_mixBar 9 = .ok (.i2l, 1) := by decide +kernel
theorem dX9_mixBar_10 : decode cX9_mixBar 10 = .ok (.invokestatic 325, 3) := by decide +kernel
theorem dX9_mixBar_13 : decode cX9_mixBar 13 = .ok (.lstore_n 1, 1) := by decide +kernel
theorem dX9_mixBar_14 : decode cX9_mixBar 14 = .ok (.lload_n 1, 1) := by decide +kernel
theorem dX9_mixBar_15 : decode cX9_mixBar 15 = .ok (.aload_n 0, 1) := by decide +kernel
theorem dX9_mixBar_16 : decode cX9_mixBar 16 = .ok (.getfield 19, 3) := by decide +kernel
theorem dX9_mixBar_19 : decode cX9_mixBar 19 = .ok (.iload_n 3, 1) := by decide +kernel
theorem dX9_mixBar_20 : decode cX9_mixBar 20 = .ok (.invokevirtual 138, 3) := by decide +kernel
theorem dX9_mixBar_23 : decode cX9_mixBar 23 = .ok (.i2l, 1) := by decide +kernel
theorem dX9_mixBar_24 : decode cX9_mixBar 24 = .ok (.invokestatic 325, 3) := by decide +kernel
theorem dX9_mixBar_27 : decode cX9_mixBar 27 = .ok (.lstore_n 1, 1) := by decide +kernel
theorem dX9_mixBar_28 : decode cX9_mixBar 28 = .ok (.lload_n 1, 1) := by decide +kernel
theorem dX9_mixBar_29 : decode cX9_mixBar 29 = .ok (.aload_n 0, 1) := by decide +kernel
theorem dX9_mixBar_30 : decode cX9_mixBar 30 = .ok (.getfield 54, 3) := by decide +kernel
theorem dX9_mixBar_33 : decode cX9_mixBar 33 = .ok (.iload_n 3, 1) := by decide +kernel
theorem dX9_mixBar_34 : decode cX9_mixBar 34 = .ok (.invokevirtual 283, 3) := by decide +kernel
theorem dX9_mixBar_37 : decode cX9_mixBar 37 = .ok (.i2l, 1) := by decide +kernel
theorem dX9_mixBar_38 : decode cX9_mixBar 38 = .ok (.invokestatic 325, 3) := by decide +kernel
theorem dX9_mixBar_41 : decode cX9_mixBar 41 = .ok (.lstore_n 1, 1) := by decide +kernel
theorem dX9_mixBar_42 : decode cX9_mixBar 42 = .ok (.iconst 0, 1) := by decide +kernel
theorem dX9_mixBar_43 : decode cX9_mixBar 43 = .ok (.istore 4, 2) := by decide +kernel
theorem dX9_mixBar_45 : decode cX9_mixBar 45 = .ok (.iload 4, 2) := by decide +kernel
theorem dX9_mixBar_47 : decode cX9_mixBar 47 = .ok (.aload_n 0, 1) := by decide +kernel
theorem dX9_mixBar_48 : decode cX9_mixBar 48 = .ok (.getfield 11, 3) := by decide +kernel
theorem dX9_mixBar_51 : decode cX9_mixBar 51 = .ok (.arraylength, 1) := by decide +kernel
theorem dX9_mixBar_52 : decode cX9_mixBar 52 = .ok (.if_icmp .ge 96, 3) := by decide +kernel
theorem dX9_mixBar_55 : decode cX9_mixBar 55 = .ok (.aload_n 0, 1) := by decide +kernel
theorem dX9_mixBar_56 : decode cX9_mixBar 56 = .ok (.iload 4, 2) := by decide +kernel
theorem dX9_mixBar_58 : decode cX9_mixBar 58 = .ok (.iload_n 3, 1) := by decide +kernel
theorem dX9_mixBar_59 : decode cX9_mixBar 59 = .ok (.invokevirtual 190, 3) := by decide +kernel
theorem dX9_mixBar_62 : decode cX9_mixBar 62 = .ok (.astore 5, 2) := by decide +kernel
theorem dX9_mixBar_64 : decode cX9_mixBar 64 = .ok (.lload_n 1, 1) := by decide +kernel
theorem dX9_mixBar_65 : decode cX9_mixBar 65 = .ok (.aload 5, 2) := by decide +kernel
theorem dX9_mixBar_67 : decode cX9_mixBar 67 = .ok (.invokevirtual 194, 3) := by decide +kernel
theorem dX9_mixBar_70 : decode cX9_mixBar 70 = .ok (.i2l, 1) := by decide +kernel
theorem dX9_mixBar_71 : decode cX9_mixBar 71 = .ok (.invokestatic 325, 3) := by decide +kernel
theorem dX9_mixBar_74 : decode cX9_mixBar 74 = .ok (.lstore_n 1, 1) := by decide +kernel
theorem dX9_mixBar_75 : decode cX9_mixBar 75 = .ok (.lload_n 1, 1) := by decide +kernel
theorem dX9_mixBar_76 : decode cX9_mixBar 76 = .ok (.aload 5, 2) := by decide +kernel
theorem dX9_mixBar_78 : decode cX9_mixBar 78 = .ok (.invokevirtual 213, 3) := by decide +kernel
theorem dX9_mixBar_81 : decode cX9_mixBar 81 = .ok (.i2l, 1) := by decide +kernel
theorem dX9_mixBar_82 : decode cX9_mixBar 82 = .ok (.invokestatic 325, 3) := by decide +kernel
theorem dX9_mixBar_85 : decode cX9_mixBar 85 = .ok (.lstore_n 1, 1) := by decide +kernel
theorem dX9_mixBar_86 : decode cX9_mixBar 86 = .ok (.lload_n 1, 1) := by decide +kernel
theorem dX9_mixBar_87 : decode cX9_mixBar 87 = .ok (.aload_n 0, 1) := by decide +kernel
theorem dX9_mixBar_88 : decode cX9_mixBar 88 = .ok (.getfield 19, 3) := by decide +kernel
theorem dX9_mixBar_91 : decode cX9_mixBar 91 = .ok (.aload_n 0, 1) := by decide +kernel
theorem dX9_mixBar_92 : decode cX9_mixBar 92 = .ok (.getfield 11, 3) := by decide +kernel
theorem dX9_mixBar_95 : decode cX9_mixBar 95 = .ok (.iload 4, 2) := by decide +kernel
theorem dX9_mixBar_97 : decode cX9_mixBar 97 = .ok (.aaload, 1) := by decide +kernel
theorem dX9_mixBar_98 : decode cX9_mixBar 98 = .ok (.invokevirtual 219, 3) := by decide +kernel
theorem dX9_mixBar_101 : decode cX9_mixBar 101 = .ok (.iload_n 3, 1) := by decide +kernel
theorem dX9_mixBar_102 : decode cX9_mixBar 102 = .ok (.invokevirtual 222, 3) := by decide +kernel
theorem dX9_mixBar_105 : decode cX9_mixBar 105 = .ok (.i2l, 1) := by decide +kernel
theorem dX9_mixBar_106 : decode cX9_mixBar 106 = .ok (.invokestatic 325, 3) := by decide +kernel
theorem dX9_mixBar_109 : decode cX9_mixBar 109 = .ok (.lstore_n 1, 1) := by decide +kernel
theorem dX9_mixBar_110 : decode cX9_mixBar 110 = .ok (.lload_n 1, 1) := by decide +kernel
theorem dX9_mixBar_111 : decode cX9_mixBar 111 = .ok (.aload_n 0, 1) := by decide +kernel
theorem dX9_mixBar_112 : decode cX9_mixBar 112 = .ok (.getfield 11, 3) := by decide +kernel
theorem dX9_mixBar_115 : decode cX9_mixBar 115 = .ok (.iload 4, 2) := by decide +kernel
theorem dX9_mixBar_117 : decode cX9_mixBar 117 = .ok (.aaload, 1) := by decide +kernel
theorem dX9_mixBar_118 : decode cX9_mixBar 118 = .ok (.aload_n 0, 1) := by decide +kernel
theorem dX9_mixBar_119 : decode cX9_mixBar 119 = .ok (.getfield 19, 3) := by decide +kernel
theorem dX9_mixBar_122 : decode cX9_mixBar 122 = .ok (.iload_n 3, 1) := by decide +kernel
theorem dX9_mixBar_123 : decode cX9_mixBar 123 = .ok (.invokevirtual 144, 3) := by decide +kernel
theorem dX9_mixBar_126 : decode cX9_mixBar 126 = .ok (.invokevirtual 186, 3) := by decide +kernel
theorem dX9_mixBar_129 : decode cX9_mixBar 129 = .ok (.i2l, 1) := by decide +kernel
theorem dX9_mixBar_130 : decode cX9_mixBar 130 = .ok (.invokestatic 325, 3) := by decide +kernel
theorem dX9_mixBar_133 : decode cX9_mixBar 133 = .ok (.lstore_n 1, 1) := by decide +kernel
theorem dX9_mixBar_134 : decode cX9_mixBar 134 = .ok (.aload_n 0, 1) := by decide +kernel
theorem dX9_mixBar_135 : decode cX9_mixBar 135 = .ok (.lload_n 1, 1) := by decide +kernel
theorem dX9_mixBar_136 : decode cX9_mixBar 136 = .ok (.aload 5, 2) := by decide +kernel
theorem dX9_mixBar_138 : decode cX9_mixBar 138 = .ok (.invokevirtual 334, 3) := by decide +kernel
theorem dX9_mixBar_141 : decode cX9_mixBar 141 = .ok (.lstore_n 1, 1) := by decide +kernel
theorem dX9_mixBar_142 : decode cX9_mixBar 142 = .ok (.iinc 4 1, 3) := by decide +kernel
theorem dX9_mixBar_145 : decode cX9_mixBar 145 = .ok (.goto (-100), 3) := by decide +kernel
theorem dX9_mixBar_148 : decode cX9_mixBar 148 = .ok (.lload_n 1, 1) := by decide +kernel
theorem dX9_mixBar_149 : decode cX9_mixBar 149 = .ok (.lreturn, 1) := by decide +kernel
theorem dX9_mixSigns_0 : decode cX9_mixSigns 0 = .ok (.iconst 0, 1) := by decide +kernel
theorem dX9_mixSigns_1 : decode cX9_mixSigns 1 = .ok (.istore 4, 2) := by decide +kernel
theorem dX9_mixSigns_3 : decode cX9_mixSigns 3 = .ok (.iload 4, 2) := by decide +kernel
theorem dX9_mixSigns_5 : decode cX9_mixSigns 5 = .ok (.aload_n 3, 1) := by decide +kernel
theorem dX9_mixSigns_6 : decode cX9_mixSigns 6 = .ok (.invokevirtual 194, 3) := by decide +kernel
theorem dX9_mixSigns_9 : decode cX9_mixSigns 9 = .ok (.if_icmp .ge 88, 3) := by decide +kernel
theorem dX9_mixSigns_12 : decode cX9_mixSigns 12 = .ok (.lload_n 1, 1) := by decide +kernel
theorem dX9_mixSigns_13 : decode cX9_mixSigns 13 = .ok (.aload_n 3, 1) := by decide +kernel
theorem dX9_mixSigns_14 : decode cX9_mixSigns 14 = .ok (.iload 4, 2) := by decide +kernel
theorem dX9_mixSigns_16 : decode cX9_mixSigns 16 = .ok (.invokevirtual 199, 3) := by decide +kernel
theorem dX9_mixSigns_19 : decode cX9_mixSigns 19 = .ok (.i2l, 1) := by decide +kernel
theorem dX9_mixSigns_20 : decode cX9_mixSigns 20 = .ok (.invokestatic 325, 3) := by decide +kernel
theorem dX9_mixSigns_23 : decode cX9_mixSigns 23 = .ok (.lstore_n 1, 1) := by decide +kernel
theorem dX9_mixSigns_24 : decode cX9_mixSigns 24 = .ok (.lload_n 1, 1) := by decide +kernel
theorem dX9_mixSigns_25 : decode cX9_mixSigns 25 = .ok (.aload_n 3, 1) := by decide +kernel
theorem dX9_mixSigns_26 : decode cX9_mixSigns 26 = .ok (.iload 4, 2) := by decide +kernel
theorem dX9_mixSigns_28 : decode cX9_mixSigns 28 = .ok (.invokevirtual 202, 3) := by decide +kernel
theorem dX9_mixSigns_31 : decode cX9_mixSigns 31 = .ok (.i2l, 1) := by decide +kernel
theorem dX9_mixSigns_32 : decode cX9_mixSigns 32 = .ok (.invokestatic 325, 3) := by decide +kernel
theorem dX9_mixSigns_35 : decode cX9_mixSigns 35 = .ok (.lstore_n 1, 1) := by decide +kernel
theorem dX9_mixSigns_36 : decode cX9_mixSigns 36 = .ok (.lload_n 1, 1) := by decide +kernel
theorem dX9_mixSigns_37 : decode cX9_mixSigns 37 = .ok (.aload_n 3, 1) := by decide +kernel
theorem dX9_mixSigns_38 : decode cX9_mixSigns 38 = .ok (.iload 4, 2) := by decide +kernel
theorem dX9_mixSigns_40 : decode cX9_mixSigns 40 = .ok (.invokevirtual 203, 3) := by decide +kernel
theorem dX9_mixSigns_43 : decode cX9_mixSigns 43 = .ok (.ifCond .eq 7, 3) := by decide +kernel
theorem dX9_mixSigns_46 : decode cX9_mixSigns 46 = .ok (.lconst 1, 1) := by decide +kernel
theorem dX9_mixSigns_47 : decode cX9_mixSigns 47 = .ok (.goto 4, 3) := by decide +kernel
theorem dX9_mixSigns_50 : decode cX9_mixSigns 50 = .ok (.lconst 0, 1) := by decide +kernel
theorem dX9_mixSigns_51 : decode cX9_mixSigns 51 = .ok (.invokestatic 325, 3) := by decide +kernel
theorem dX9_mixSigns_54 : decode cX9_mixSigns 54 = .ok (.lstore_n 1, 1) := by decide +kernel
theorem dX9_mixSigns_55 : decode cX9_mixSigns 55 = .ok (.lload_n 1, 1) := by decide +kernel
theorem dX9_mixSigns_56 : decode cX9_mixSigns 56 = .ok (.aload_n 3, 1) := by decide +kernel
theorem dX9_mixSigns_57 : decode cX9_mixSigns 57 = .ok (.iload 4, 2) := by decide +kernel
theorem dX9_mixSigns_59 : decode cX9_mixSigns 59 = .ok (.invokevirtual 207, 3) := by decide +kernel
theorem dX9_mixSigns_62 : decode cX9_mixSigns 62 = .ok (.i2l, 1) := by decide +kernel
theorem dX9_mixSigns_63 : decode cX9_mixSigns 63 = .ok (.invokestatic 325, 3) := by decide +kernel
theorem dX9_mixSigns_66 : decode cX9_mixSigns 66 = .ok (.lstore_n 1, 1) := by decide +kernel
theorem dX9_mixSigns_67 : decode cX9_mixSigns 67 = .ok (.lload_n 1, 1) := by decide +kernel
theorem dX9_mixSigns_68 : decode cX9_mixSigns 68 = .ok (.aload_n 3, 1) := by decide +kernel
theorem dX9_mixSigns_69 : decode cX9_mixSigns 69 = .ok (.iload 4, 2) := by decide +kernel
theorem dX9_mixSigns_71 : decode cX9_mixSigns 71 = .ok (.invokevirtual 210, 3) := by decide +kernel
theorem dX9_mixSigns_74 : decode cX9_mixSigns 74 = .ok (.i2l, 1) := by decide +kernel
theorem dX9_mixSigns_75 : decode cX9_mixSigns 75 = .ok (.invokestatic 325, 3) := by decide +kernel
theorem dX9_mixSigns_78 : decode cX9_mixSigns 78 = .ok (.lstore_n 1, 1) := by decide +kernel
theorem dX9_mixSigns_79 : decode cX9_mixSigns 79 = .ok (.lload_n 1, 1) := by decide +kernel
theorem dX9_mixSigns_80 : decode cX9_mixSigns 80 = .ok (.aload_n 3, 1) := by decide +kernel
theorem dX9_mixSigns_81 : decode cX9_mixSigns 81 = .ok (.iload 4, 2) := by decide +kernel
theorem dX9_mixSigns_83 : decode cX9_mixSigns 83 = .ok (.invokevirtual 216, 3) := by decide +kernel
theorem dX9_mixSigns_86 : decode cX9_mixSigns 86 = .ok (.i2l, 1) := by decide +kernel
theorem dX9_mixSigns_87 : decode cX9_mixSigns 87 = .ok (.invokestatic 325, 3) := by decide +kernel
theorem dX9_mixSigns_90 : decode cX9_mixSigns 90 = .ok (.lstore_n 1, 1) := by decide +kernel
theorem dX9_mixSigns_91 : decode cX9_mixSigns 91 = .ok (.iinc 4 1, 3) := by decide +kernel
theorem dX9_mixSigns_94 : decode cX9_mixSigns 94 = .ok (.goto (-91), 3) := by decide +kernel
theorem dX9_mixSigns_97 : decode cX9_mixSigns 97 = .ok (.lload_n 1, 1) := by decide +kernel
theorem dX9_mixSigns_98 : decode cX9_mixSigns 98 = .ok (.lreturn, 1) := by decide +kernel
theorem dX9_mixMoments_0 : decode cX9_mixMoments 0 = .ok (.lload_n 1, 1) := by decide +kernel
theorem dX9_mixMoments_1 : decode cX9_mixMoments 1 = .ok (.aload_n 0, 1) := by decide +kernel
theorem dX9_mixMoments_2 : decode cX9_mixMoments 2 = .ok (.getfield 33, 3) := by decide +kernel
theorem dX9_mixMoments_5 : decode cX9_mixMoments 5 = .ok (.invokevirtual 228, 3) := by decide +kernel
theorem dX9_mixMoments_8 : decode cX9_mixMoments 8 = .ok (.i2l, 1) := by decide +kernel
theorem dX9_mixMoments_9 : decode cX9_mixMoments 9 = .ok (.invokestatic 325, 3) := by decide +kernel
theorem dX9_mixMoments_12 : decode cX9_mixMoments 12 = .ok (.lstore_n 1, 1) := by decide +kernel
theorem dX9_mixMoments_13 : decode cX9_mixMoments 13 = .ok (.iconst 0, 1) := by decide +kernel
theorem dX9_mixMoments_14 : decode cX9_mixMoments 14 = .ok (.istore_n 3, 1) := by decide +kernel
theorem dX9_mixMoments_15 : decode cX9_mixMoments 15 = .ok (.iload_n 3, 1) := by decide +kernel
theorem dX9_mixMoments_16 : decode cX9_mixMoments 16 = .ok (.aload_n 0, 1) := by decide +kernel
theorem dX9_mixMoments_17 : decode cX9_mixMoments 17 = .ok (.getfield 33, 3) := by decide +kernel
theorem dX9_mixMoments_20 : decode cX9_mixMoments 20 = .ok (.invokevirtual 228, 3) := by decide +kernel
theorem dX9_mixMoments_23 : decode cX9_mixMoments 23 = .ok (.if_icmp .ge 108, 3) := by decide +kernel
theorem dX9_mixMoments_26 : decode cX9_mixMoments 26 = .ok (.lload_n 1, 1) := by decide +kernel
theorem dX9_mixMoments_27 : decode cX9_mixMoments 27 = .ok (.aload_n 0, 1) := by decide +kernel
theorem dX9_mixMoments_28 : decode cX9_mixMoments 28 = .ok (.getfield 33, 3) := by decide +kernel
theorem dX9_mixMoments_31 : decode cX9_mixMoments 31 = .ok (.iload_n 3, 1) := by decide +kernel
theorem dX9_mixMoments_32 : decode cX9_mixMoments 32 = .ok (.invokevirtual 232, 3) := by decide +kernel
theorem dX9_mixMoments_35 : decode cX9_mixMoments 35 = .ok (.i2l, 1) := by decide +kernel
theorem dX9_mixMoments_36 : decode cX9_mixMoments 36 = .ok (.invokestatic 325, 3) := by decide +kernel
theorem dX9_mixMoments_39 : decode cX9_mixMoments 39 = .ok (.lstore_n 1, 1) := by decide +kernel
theorem dX9_mixMoments_40 : decode cX9_mixMoments 40 = .ok (.iconst 0, 1) := by decide +kernel
theorem dX9_mixMoments_41 : decode cX9_mixMoments 41 = .ok (.istore 4, 2) := by decide +kernel
theorem dX9_mixMoments_43 : decode cX9_mixMoments 43 = .ok (.iload 4, 2) := by decide +kernel
theorem dX9_mixMoments_45 : decode cX9_mixMoments 45 = .ok (.aload_n 0, 1) := by decide +kernel
theorem dX9_mixMoments_46 : decode cX9_mixMoments 46 = .ok (.getfield 11, 3) := by decide +kernel
theorem dX9_mixMoments_49 : decode cX9_mixMoments 49 = .ok (.arraylength, 1) := by decide +kernel
theorem dX9_mixMoments_50 : decode cX9_mixMoments 50 = .ok (.if_icmp .ge 35, 3) := by decide +kernel
theorem dX9_mixMoments_53 : decode cX9_mixMoments 53 = .ok (.lload_n 1, 1) := by decide +kernel
theorem dX9_mixMoments_54 : decode cX9_mixMoments 54 = .ok (.aload_n 0, 1) := by decide +kernel
theorem dX9_mixMoments_55 : decode cX9_mixMoments 55 = .ok (.getfield 11, 3) := by decide +kernel
theorem dX9_mixMoments_58 : decode cX9_mixMoments 58 = .ok (.iload 4, 2) := by decide +kernel
theorem dX9_mixMoments_60 : decode cX9_mixMoments 60 = .ok (.aaload, 1) := by decide +kernel
theorem dX9_mixMoments_61 : decode cX9_mixMoments 61 = .ok (.aload_n 0, 1) := by decide +kernel
theorem dX9_mixMoments_62 : decode cX9_mixMoments 62 = .ok (.getfield 33, 3) := by decide +kernel
theorem dX9_mixMoments_65 : decode cX9_mixMoments 65 = .ok (.iload_n 3, 1) := by decide +kernel
theorem dX9_mixMoments_66 : decode cX9_mixMoments 66 = .ok (.iload 4, 2) := by decide +kernel
theorem dX9_mixMoments_68 : decode cX9_mixMoments 68 = .ok (.invokevirtual 235, 3) := by decide +kernel
theorem dX9_mixMoments_71 : decode cX9_mixMoments 71 = .ok (.invokevirtual 119, 3) := by decide +kernel
theorem dX9_mixMoments_74 : decode cX9_mixMoments 74 = .ok (.i2l, 1) := by decide +kernel
theorem dX9_mixMoments_75 : decode cX9_mixMoments 75 = .ok (.invokestatic 325, 3) := by decide +kernel
theorem dX9_mixMoments_78 : decode cX9_mixMoments 78 = .ok (.lstore_n 1, 1) := by decide +kernel
theorem dX9_mixMoments_79 : decode cX9_mixMoments 79 = .ok (.iinc 4 1, 3) := by decide +kernel
theorem dX9_mixMoments_82 : decode cX9_mixMoments 82 = .ok (.goto (-39), 3) := by decide +kernel
theorem dX9_mixMoments_85 : decode cX9_mixMoments 85 = .ok (.aload_n 0, 1) := by decide +kernel
theorem dX9_mixMoments_86 : decode cX9_mixMoments 86 = .ok (.iload_n 3, 1) := by decide +kernel
theorem dX9_mixMoments_87 : decode cX9_mixMoments 87 = .ok (.invokevirtual 237, 3) := by decide +kernel
theorem dX9_mixMoments_90 : decode cX9_mixMoments 90 = .ok (.astore 4, 2) := by decide +kernel
theorem dX9_mixMoments_92 : decode cX9_mixMoments 92 = .ok (.lload_n 1, 1) := by decide +kernel
theorem dX9_mixMoments_93 : decode cX9_mixMoments 93 = .ok (.aload 4, 2) := by decide +kernel
theorem dX9_mixMoments_95 : decode cX9_mixMoments 95 = .ok (.invokevirtual 241, 3) := by decide +kernel
theorem dX9_mixMoments_98 : decode cX9_mixMoments 98 = .ok (.i2l, 1) := by decide +kernel
theorem dX9_mixMoments_99 : decode cX9_mixMoments 99 = .ok (.invokestatic 325, 3) := by decide +kernel
theorem dX9_mixMoments_102 : decode cX9_mixMoments 102 = .ok (.lstore_n 1, 1) := by decide +kernel
theorem dX9_mixMoments_103 : decode cX9_mixMoments 103 = .ok (.lload_n 1, 1) := by decide +kernel
theorem dX9_mixMoments_104 : decode cX9_mixMoments 104 = .ok (.aload 4, 2) := by decide +kernel
theorem dX9_mixMoments_106 : decode cX9_mixMoments 106 = .ok (.invokevirtual 244, 3) := by decide +kernel
theorem dX9_mixMoments_109 : decode cX9_mixMoments 109 = .ok (.i2l, 1) := by decide +kernel
theorem dX9_mixMoments_110 : decode cX9_mixMoments 110 = .ok (.invokestatic 325, 3) := by decide +kernel
theorem dX9_mixMoments_113 : decode cX9_mixMoments 113 = .ok (.lstore_n 1, 1) := by decide +kernel
theorem dX9_mixMoments_114 : decode cX9_mixMoments 114 = .ok (.lload_n 1, 1) := by decide +kernel
theorem dX9_mixMoments_115 : decode cX9_mixMoments 115 = .ok (.aload 4, 2) := by decide +kernel
theorem dX9_mixMoments_117 : decode cX9_mixMoments 117 = .ok (.invokevirtual 247, 3) := by decide +kernel
theorem dX9_mixMoments_120 : decode cX9_mixMoments 120 = .ok (.i2l, 1) := by decide +kernel
theorem dX9_mixMoments_121 : decode cX9_mixMoments 121 = .ok (.invokestatic 325, 3) := by decide +kernel
theorem dX9_mixMoments_124 : decode cX9_mixMoments 124 = .ok (.lstore_n 1, 1) := by decide +kernel
theorem dX9_mixMoments_125 : decode cX9_mixMoments 125 = .ok (.iinc 3 1, 3) := by decide +kernel
theorem dX9_mixMoments_128 : decode cX9_mixMoments 128 = .ok (.goto (-113), 3) := by decide +kernel
theorem dX9_mixMoments_131 : decode cX9_mixMoments 131 = .ok (.lload_n 1, 1) := by decide +kernel
theorem dX9_mixMoments_132 : decode cX9_mixMoments 132 = .ok (.lreturn, 1) := by decide +kernel
theorem dX9_mixFaults_0 : decode cX9_mixFaults 0 = .ok (.lload_n 1, 1) := by decide +kernel
theorem dX9_mixFaults_1 : decode cX9_mixFaults 1 = .ok (.aload_n 0, 1) := by decide +kernel
theorem dX9_mixFaults_2 : decode cX9_mixFaults 2 = .ok (.getfield 47, 3) := by decide +kernel
theorem dX9_mixFaults_5 : decode cX9_mixFaults 5 = .ok (.invokevirtual 253, 3) := by decide +kernel
theorem dX9_mixFaults_8 : decode cX9_mixFaults 8 = .ok (.i2l, 1) := by decide +kernel
theorem dX9_mixFaults_9 : decode cX9_mixFaults 9 = .ok (.invokestatic 325, 3) := by decide +kernel
theorem dX9_mixFaults_12 : decode cX9_mixFaults 12 = .ok (.lstore_n 1, 1) := by decide +kernel
theorem dX9_mixFaults_13 : decode cX9_mixFaults 13 = .ok (.iconst 0, 1) := by decide +kernel
theorem dX9_mixFaults_14 : decode cX9_mixFaults 14 = .ok (.istore_n 3, 1) := by decide +kernel
theorem dX9_mixFaults_15 : decode cX9_mixFaults 15 = .ok (.iload_n 3, 1) := by decide +kernel
theorem dX9_mixFaults_16 : decode cX9_mixFaults 16 = .ok (.aload_n 0, 1) := by decide +kernel
theorem dX9_mixFaults_17 : decode cX9_mixFaults 17 = .ok (.getfield 47, 3) := by decide +kernel
theorem dX9_mixFaults_20 : decode cX9_mixFaults 20 = .ok (.invokevirtual 253, 3) := by decide +kernel
theorem dX9_mixFaults_23 : decode cX9_mixFaults 23 = .ok (.if_icmp .ge 51, 3) := by decide +kernel
theorem dX9_mixFaults_26 : decode cX9_mixFaults 26 = .ok (.lload_n 1, 1) := by decide +kernel
theorem dX9_mixFaults_27 : decode cX9_mixFaults 27 = .ok (.aload_n 0, 1) := by decide +kernel
theorem dX9_mixFaults_28 : decode cX9_mixFaults 28 = .ok (.getfield 47, 3) := by decide +kernel
theorem dX9_mixFaults_31 : decode cX9_mixFaults 31 = .ok (.iload_n 3, 1) := by decide +kernel
theorem dX9_mixFaults_32 : decode cX9_mixFaults 32 = .ok (.invokevirtual 257, 3) := by decide +kernel
theorem dX9_mixFaults_35 : decode cX9_mixFaults 35 = .ok (.i2l, 1) := by decide +kernel
theorem dX9_mixFaults_36 : decode cX9_mixFaults 36 = .ok (.invokestatic 325, 3) := by decide +kernel
theorem dX9_mixFaults_39 : decode cX9_mixFaults 39 = .ok (.lstore_n 1, 1) := by decide +kernel
theorem dX9_mixFaults_40 : decode cX9_mixFaults 40 = .ok (.lload_n 1, 1) := by decide +kernel
theorem dX9_mixFaults_41 : decode cX9_mixFaults 41 = .ok (.aload_n 0, 1) := by decide +kernel
theorem dX9_mixFaults_42 : decode cX9_mixFaults 42 = .ok (.getfield 47, 3) := by decide +kernel
theorem dX9_mixFaults_45 : decode cX9_mixFaults 45 = .ok (.iload_n 3, 1) := by decide +kernel
theorem dX9_mixFaults_46 : decode cX9_mixFaults 46 = .ok (.invokevirtual 260, 3) := by decide +kernel
theorem dX9_mixFaults_49 : decode cX9_mixFaults 49 = .ok (.i2l, 1) := by decide +kernel
theorem dX9_mixFaults_50 : decode cX9_mixFaults 50 = .ok (.invokestatic 325, 3) := by decide +kernel
theorem dX9_mixFaults_53 : decode cX9_mixFaults 53 = .ok (.lstore_n 1, 1) := by decide +kernel
theorem dX9_mixFaults_54 : decode cX9_mixFaults 54 = .ok (.lload_n 1, 1) := by decide +kernel
theorem dX9_mixFaults_55 : decode cX9_mixFaults 55 = .ok (.aload_n 0, 1) := by decide +kernel
theorem dX9_mixFaults_56 : decode cX9_mixFaults 56 = .ok (.getfield 47, 3) := by decide +kernel
theorem dX9_mixFaults_59 : decode cX9_mixFaults 59 = .ok (.iload_n 3, 1) := by decide +kernel
theorem dX9_mixFaults_60 : decode cX9_mixFaults 60 = .ok (.invokevirtual 261, 3) := by decide +kernel
theorem dX9_mixFaults_63 : decode cX9_mixFaults 63 = .ok (.i2l, 1) := by decide +kernel
theorem dX9_mixFaults_64 : decode cX9_mixFaults 64 = .ok (.invokestatic 325, 3) := by decide +kernel
theorem dX9_mixFaults_67 : decode cX9_mixFaults 67 = .ok (.lstore_n 1, 1) := by decide +kernel
theorem dX9_mixFaults_68 : decode cX9_mixFaults 68 = .ok (.iinc 3 1, 3) := by decide +kernel
theorem dX9_mixFaults_71 : decode cX9_mixFaults 71 = .ok (.goto (-56), 3) := by decide +kernel
theorem dX9_mixFaults_74 : decode cX9_mixFaults 74 = .ok (.lload_n 1, 1) := by decide +kernel
theorem dX9_mixFaults_75 : decode cX9_mixFaults 75 = .ok (.lreturn, 1) := by decide +kernel
theorem dX9_mixLines_0 : decode cX9_mixLines 0 = .ok (.aload_n 0, 1) := by decide +kernel
theorem dX9_mixLines_1 : decode cX9_mixLines 1 = .ok (.iload_n 3, 1) := by decide +kernel
theorem dX9_mixLines_2 : decode cX9_mixLines 2 = .ok (.invokevirtual 289, 3) := by decide +kernel
theorem dX9_mixLines_5 : decode cX9_mixLines 5 = .ok (.lload_n 1, 1) := by decide +kernel
theorem dX9_mixLines_6 : decode cX9_mixLines 6 = .ok (.aload_n 0, 1) := by decide +kernel
theorem dX9_mixLines_7 : decode cX9_mixLines 7 = .ok (.getfield 54, 3) := by decide +kernel
theorem dX9_mixLines_10 : decode cX9_mixLines 10 = .ok (.invokevirtual 292, 3) := by decide +kernel
theorem dX9_mixLines_13 : decode cX9_mixLines 13 = .ok (.i2l, 1) := by decide +kernel
theorem dX9_mixLines_14 : decode cX9_mixLines 14 = .ok (.invokestatic 325, 3) := by decide +kernel
theorem dX9_mixLines_17 : decode cX9_mixLines 17 = .ok (.lstore_n 1, 1) := by decide +kernel
theorem dX9_mixLines_18 : decode cX9_mixLines 18 = .ok (.lload_n 1, 1) := by decide +kernel
theorem dX9_mixLines_19 : decode cX9_mixLines 19 = .ok (.aload_n 0, 1) := by decide +kernel
theorem dX9_mixLines_20 : decode cX9_mixLines 20 = .ok (.getfield 54, 3) := by decide +kernel
theorem dX9_mixLines_23 : decode cX9_mixLines 23 = .ok (.invokevirtual 296, 3) := by decide +kernel
theorem dX9_mixLines_26 : decode cX9_mixLines 26 = .ok (.i2l, 1) := by decide +kernel
theorem dX9_mixLines_27 : decode cX9_mixLines 27 = .ok (.invokestatic 325, 3) := by decide +kernel
theorem dX9_mixLines_30 : decode cX9_mixLines 30 = .ok (.lreturn, 1) := by decide +kernel
theorem dX9_forgetWhatFollows_0 : decode cX9_forgetWhatFollows 0 = .ok (.aload_n 0, 1) := by decide +kernel
theorem dX9_forgetWhatFollows_1 : decode cX9_forgetWhatFollows 1 = .ok (.iconst 0, 1) := by decide +kernel
theorem dX9_forgetWhatFollows_2 : decode cX9_forgetWhatFollows 2 = .ok (.putfield 58, 3) := by decide +kernel
theorem dX9_forgetWhatFollows_5 : decode cX9_forgetWhatFollows 5 = .ok (.aload_n 0, 1) := by decide +kernel
theorem dX9_forgetWhatFollows_6 : decode cX9_forgetWhatFollows 6 = .ok (.iconst 0, 1) := by decide +kernel
theorem dX9_forgetWhatFollows_7 : decode cX9_forgetWhatFollows 7 = .ok (.putfield 62, 3) := by decide +kernel
theorem dX9_forgetWhatFollows_10 : decode cX9_forgetWhatFollows 10 = .ok (.aload_n 0, 1) := by decide +kernel
theorem dX9_forgetWhatFollows_11 : decode cX9_forgetWhatFollows 11 = .ok (.iconst 0, 1) := by decide +kernel
theorem dX9_forgetWhatFollows_12 : decode cX9_forgetWhatFollows 12 = .ok (.putfield 65, 3) := by decide +kernel
theorem dX9_forgetWhatFollows_15 : decode cX9_forgetWhatFollows 15 = .ok (.aload_n 0, 1) := by decide +kernel
theorem dX9_forgetWhatFollows_16 : decode cX9_forgetWhatFollows 16 = .ok (.iconst (-1), 1) := by decide +kernel
theorem dX9_forgetWhatFollows_17 : decode cX9_forgetWhatFollows 17 = .ok (.putfield 68, 3) := by decide +kernel
theorem dX9_forgetWhatFollows_20 : decode cX9_forgetWhatFollows 20 = .ok (.aload_n 0, 1) := by decide +kernel
theorem dX9_forgetWhatFollows_21 : decode cX9_forgetWhatFollows 21 = .ok (.iconst (-1), 1) := by decide +kernel
theorem dX9_forgetWhatFollows_22 : decode cX9_forgetWhatFollows 22 = .ok (.putfield 72, 3) := by decide +kernel
theorem dX9_forgetWhatFollows_25 : decode cX9_forgetWhatFollows 25 = .ok (.return_, 1) := by decide +kernel
theorem dX9_hear_0 : decode cX9_hear 0 = .ok (.aload_n 0, 1) := by decide +kernel
theorem dX9_hear_1 : decode cX9_hear 1 = .ok (.getfield 58, 3) := by decide +kernel
theorem dX9_hear_4 : decode cX9_hear 4 = .ok (.ifCond .ne 19, 3) := by decide +kernel
theorem dX9_hear_7 : decode cX9_hear 7 = .ok (.aload_n 0, 1) := by decide +kernel
theorem dX9_hear_8 : decode cX9_hear 8 = .ok (.getfield 33, 3) := by decide +kernel
theorem dX9_hear_11 : decode cX9_hear 11 = .ok (.aload_n 0, 1) := by decide +kernel
theorem dX9_hear_12 : decode cX9_hear 12 = .ok (.getfield 11, 3) := by decide +kernel
theorem dX9_hear_15 : decode cX9_hear 15 = .ok (.invokevirtual 338, 3) := by decide +kernel
theorem dX9_hear_18 : decode cX9_hear 18 = .ok (.aload_n 0, 1) := by decide +kernel
theorem dX9_hear_19 : decode cX9_hear 19 = .ok (.iconst 1, 1) := by decide +kernel
theorem dX9_hear_20 : decode cX9_hear 20 = .ok (.putfield 58, 3) := by decide +kernel
theorem dX9_hear_23 : decode cX9_hear 23 = .ok (.return_, 1) := by decide +kernel
theorem dX9_searchFaults_0 : decode cX9_searchFaults 0 = .ok (.aload_n 0, 1) := by decide +kernel
theorem dX9_searchFaults_1 : decode cX9_searchFaults 1 = .ok (.invokevirtual 225, 3) := by decide +kernel
theorem dX9_searchFaults_4 : decode cX9_searchFaults 4 = .ok (.aload_n 0, 1) := by decide +kernel
theorem dX9_searchFaults_5 : decode cX9_searchFaults 5 = .ok (.getfield 62, 3) := by decide +kernel
theorem dX9_searchFaults_8 : decode cX9_searchFaults 8 = .ok (.ifCond .ne 23, 3) := by decide +kernel
theorem dX9_searchFaults_11 : decode cX9_searchFaults 11 = .ok (.aload_n 0, 1) := by decide +kernel
theorem dX9_searchFaults_12 : decode cX9_searchFaults 12 = .ok (.getfield 47, 3) := by decide +kernel
theorem dX9_searchFaults_15 : decode cX9_searchFaults 15 = .ok (.aload_n 0, 1) := by decide +kernel
theorem dX9_searchFaults_16 : decode cX9_searchFaults 16 = .ok (.getfield 11, 3) := by decide +kernel
theorem dX9_searchFaults_19 : decode cX9_searchFaults 19 = .ok (.aload_n 0, 1) := by decide +kernel
theorem dX9_searchFaults_20 : decode cX9_searchFaults 20 = .ok (.getfield 33, 3) := by decide +kernel
theorem dX9_searchFaults_23 : decode cX9_searchFaults 23 = .ok (.invokevirtual 270, 3) := by decide +kernel
theorem dX9_searchFaults_26 : decode cX9_searchFaults 26 = .ok (.aload_n 0, 1) := by decide +kernel
theorem dX9_searchFaults_27 : decode cX9_searchFaults 27 = .ok (.iconst 1, 1) := by decide +kernel
theorem dX9_searchFaults_28 : decode cX9_searchFaults 28 = .ok (.putfield 62, 3) := by decide +kernel
theorem dX9_searchFaults_31 : decode cX9_searchFaults 31 = .ok (.return_, 1) := by decide +kernel
theorem dX9_measureWidths_0 : decode cX9_measureWidths 0 = .ok (.aload_n 0, 1) := by decide +kernel
theorem dX9_measureWidths_1 : decode cX9_measureWidths 1 = .ok (.invokevirtual 225, 3) := by decide +kernel
theorem dX9_measureWidths_4 : decode cX9_measureWidths 4 = .ok (.aload_n 0, 1) := by decide +kernel
theorem dX9_measureWidths_5 : decode cX9_measureWidths 5 = .ok (.getfield 65, 3) := by decide +kernel
theorem dX9_measureWidths_8 : decode cX9_measureWidths 8 = .ok (.ifCond .ne 23, 3) := by decide +kernel
theorem dX9_measureWidths_11 : decode cX9_measureWidths 11 = .ok (.aload_n 0, 1) := by decide +kernel
theorem dX9_measureWidths_12 : decode cX9_measureWidths 12 = .ok (.getfield 54, 3) := by decide +kernel
theorem dX9_measureWidths_15 : decode cX9_measureWidths 15 = .ok (.aload_n 0, 1) := by decide +kernel
theorem dX9_measureWidths_16 : decode cX9_measureWidths 16 = .ok (.getfield 19, 3) := by decide +kernel
theorem dX9_measureWidths_19 : decode cX9_measureWidths 19 = .ok (.aload_n 0, 1) := by decide +kernel
theorem dX9_measureWidths_20 : decode cX9_measureWidths 20 = .ok (.getfield 33, 3) := by decide +kernel
theorem dX9_measureWidths_23 : decode cX9_measureWidths 23 = .ok (.invokevirtual 342, 3) := by decide +kernel
theorem dX9_measureWidths_26 : decode cX9_measureWidths 26 = .ok (.aload_n 0, 1) := by decide +kernel
theorem dX9_measureWidths_27 : decode cX9_measureWidths 27 = .ok (.iconst 1, 1) := by decide +kernel
theorem dX9_measureWidths_28 : decode cX9_measureWidths 28 = .ok (.putfield 65, 3) := by decide +kernel
theorem dX9_measureWidths_31 : decode cX9_measureWidths 31 = .ok (.return_, 1) := by decide +kernel
theorem dX9_breakLines_0 : decode cX9_breakLines 0 = .ok (.aload_n 0, 1) := by decide +kernel
theorem dX9_breakLines_1 : decode cX9_breakLines 1 = .ok (.getfield 54, 3) := by decide +kernel
theorem dX9_breakLines_4 : decode cX9_breakLines 4 = .ok (.aload_n 0, 1) := by decide +kernel
theorem dX9_breakLines_5 : decode cX9_breakLines 5 = .ok (.getfield 19, 3) := by decide +kernel
theorem dX9_breakLines_8 : decode cX9_breakLines 8 = .ok (.aload_n 0, 1) := by decide +kernel
theorem dX9_breakLines_9 : decode cX9_breakLines 9 = .ok (.invokevirtual 274, 3) := by decide +kernel
theorem dX9_breakLines_12 : decode cX9_breakLines 12 = .ok (.invokevirtual 277, 3) := by decide +kernel
theorem dX9_breakLines_15 : decode cX9_breakLines 15 = .ok (.iload_n 1, 1) := by decide +kernel
theorem dX9_breakLines_16 : decode cX9_breakLines 16 = .ok (.invokevirtual 345, 3) := by decide +kernel
theorem dX9_breakLines_19 : decode cX9_breakLines 19 = .ok (.return_, 1) := by decide +kernel
theorem dX9_lastEnd_0 : decode cX9_lastEnd 0 = .ok (.iconst 0, 1) := by decide +kernel
theorem dX9_lastEnd_1 : decode cX9_lastEnd 1 = .ok (.istore_n 1, 1) := by decide +kernel
theorem dX9_lastEnd_2 : decode cX9_lastEnd 2 = .ok (.iconst 0, 1) := by decide +kernel
theorem dX9_lastEnd_3 : decode cX9_lastEnd 3 = .ok (.istore_n 2, 1) := by decide +kernel
theorem dX9_lastEnd_4 : decode cX9_lastEnd 4 = .ok (.iload_n 2, 1) := by decide +kernel
theorem dX9_lastEnd_5 : decode cX9_lastEnd 5 = .ok (.aload_n 0, 1) := by decide +kernel
theorem dX9_lastEnd_6 : decode cX9_lastEnd 6 = .ok (.getfield 11, 3) := by decide +kernel
theorem dX9_lastEnd_9 : decode cX9_lastEnd 9 = .ok (.arraylength, 1) := by decide +kernel
theorem dX9_lastEnd_10 : decode cX9_lastEnd 10 = .ok (.if_icmp .ge 23, 3) := by decide +kernel
theorem dX9_lastEnd_13 : decode cX9_lastEnd 13 = .ok (.iload_n 1, 1) := by decide +kernel
theorem dX9_lastEnd_14 : decode cX9_lastEnd 14 = .ok (.aload_n 0, 1) := by decide +kernel
theorem dX9_lastEnd_15 : decode cX9_lastEnd 15 = .ok (.getfield 11, 3) := by decide +kernel
theorem dX9_lastEnd_18 : decode cX9_lastEnd 18 = .ok (.iload_n 2, 1) := by decide +kernel
theorem dX9_lastEnd_19 : decode cX9_lastEnd 19 = .ok (.aaload, 1) := by decide +kernel
theorem dX9_lastEnd_20 : decode cX9_lastEnd 20 = .ok (.invokevirtual 219, 3) := by decide +kernel
theorem dX9_lastEnd_23 : decode cX9_lastEnd 23 = .ok (.invokestatic 348, 3) := by decide +kernel
theorem dX9_lastEnd_26 : decode cX9_lastEnd 26 = .ok (.istore_n 1, 1) := by decide +kernel
theorem dX9_lastEnd_27 : decode cX9_lastEnd 27 = .ok (.iinc 2 1, 3) := by decide +kernel
theorem dX9_lastEnd_30 : decode cX9_lastEnd 30 = .ok (.goto (-26), 3) := by decide +kernel
theorem dX9_lastEnd_33 : decode cX9_lastEnd 33 = .ok (.iload_n 1, 1) := by decide +kernel
theorem dX9_lastEnd_34 : decode cX9_lastEnd 34 = .ok (.ireturn, 1) := by decide +kernel
theorem dX9_allEvents_0 : decode cX9_allEvents 0 = .ok (.iconst 0, 1) := by decide +kernel
theorem dX9_allEvents_1 : decode cX9_allEvents 1 = .ok (.istore_n 1, 1) := by decide +kernel
theorem dX9_allEvents_2 : decode cX9_allEvents 2 = .ok (.iconst 0, 1) := by decide +kernel
theorem dX9_allEvents_3 : decode cX9_allEvents 3 = .ok (.istore_n 2, 1) := by decide +kernel
theorem dX9_allEvents_4 : decode cX9_allEvents 4 = .ok (.iload_n 2, 1) := by decide +kernel
theorem dX9_allEvents_5 : decode cX9_allEvents 5 = .ok (.aload_n 0, 1) := by decide +kernel
theorem dX9_allEvents_6 : decode cX9_allEvents 6 = .ok (.getfield 11, 3) := by decide +kernel
theorem dX9_allEvents_9 : decode cX9_allEvents 9 = .ok (.arraylength, 1) := by decide +kernel
theorem dX9_allEvents_10 : decode cX9_allEvents 10 = .ok (.if_icmp .ge 21, 3) := by decide +kernel
theorem dX9_allEvents_13 : decode cX9_allEvents 13 = .ok (.iload_n 1, 1) := by decide +kernel
theorem dX9_allEvents_14 : decode cX9_allEvents 14 = .ok (.aload_n 0, 1) := by decide +kernel
theorem dX9_allEvents_15 : decode cX9_allEvents 15 = .ok (.getfield 11, 3) := by decide +kernel
theorem dX9_allEvents_18 : decode cX9_allEvents 18 = .ok (.iload_n 2, 1) := by decide +kernel
theorem dX9_allEvents_19 : decode cX9_allEvents 19 = .ok (.aaload, 1) := by decide +kernel
theorem dX9_allEvents_20 : decode cX9_allEvents 20 = .ok (.invokevirtual 98, 3) := by decide +kernel
theorem dX9_allEvents_23 : decode cX9_allEvents 23 = .ok (.iadd, 1) := by decide +kernel
theorem dX9_allEvents_24 : decode cX9_allEvents 24 = .ok (.istore_n 1, 1) := by decide +kernel
theorem dX9_allEvents_25 : decode cX9_allEvents 25 = .ok (.iinc 2 1, 3) := by decide +kernel
theorem dX9_allEvents_28 : decode cX9_allEvents 28 = .ok (.goto (-24), 3) := by decide +kernel
theorem dX9_allEvents_31 : decode cX9_allEvents 31 = .ok (.iload_n 1, 1) := by decide +kernel
theorem dX9_allEvents_32 : decode cX9_allEvents 32 = .ok (.ireturn, 1) := by decide +kernel
theorem dX9_partAt_0 : decode cX9_partAt 0 = .ok (.iload_n 1, 1) := by decide +kernel
theorem dX9_partAt_1 : decode cX9_partAt 1 = .ok (.ifCond .lt 12, 3) := by decide +kernel
theorem dX9_partAt_4 : decode cX9_partAt 4 = .ok (.iload_n 1, 1) := by decide +kernel
theorem dX9_partAt_5 : decode cX9_partAt 5 = .ok (.aload_n 0, 1) := by decide +kernel
theorem dX9_partAt_6 : decode cX9_partAt 6 = .ok (.getfield 11, 3) := by decide +kernel
theorem dX9_partAt_9 : decode cX9_partAt 9 = .ok (.arraylength, 1) := by decide +kernel
theorem dX9_partAt_10 : decode cX9_partAt 10 = .ok (.if_icmp .lt 14, 3) := by decide +kernel
theorem dX9_partAt_13 : decode cX9_partAt 13 = .ok (.new 353, 3) := by decide +kernel
theorem dX9_partAt_16 : decode cX9_partAt 16 = .ok (.dup, 1) := by decide +kernel
theorem dX9_partAt_17 : decode cX9_partAt 17 = .ok (.ldc_w 355, 3) := by decide +kernel
theorem dX9_partAt_20 : decode cX9_partAt 20 = .ok (.invokespecial 357, 3) := by decide +kernel
theorem dX9_partAt_23 : decode cX9_partAt 23 = .ok (.athrow, 1) := by decide +kernel
theorem dX9_partAt_24 : decode cX9_partAt 24 = .ok (.aload_n 0, 1) := by decide +kernel
theorem dX9_partAt_25 : decode cX9_partAt 25 = .ok (.getfield 11, 3) := by decide +kernel
theorem dX9_partAt_28 : decode cX9_partAt 28 = .ok (.iload_n 1, 1) := by decide +kernel
theorem dX9_partAt_29 : decode cX9_partAt 29 = .ok (.aaload, 1) := by decide +kernel
theorem dX9_partAt_30 : decode cX9_partAt 30 = .ok (.areturn, 1) := by decide +kernel
theorem dX9_partWith_0 : decode cX9_partWith 0 = .ok (.aload_n 0, 1) := by decide +kernel
theorem dX9_partWith_1 : decode cX9_partWith 1 = .ok (.iload_n 1, 1) := by decide +kernel
theorem dX9_partWith_2 : decode cX9_partWith 2 = .ok (.invokevirtual 75, 3) := by decide +kernel
theorem dX9_partWith_5 : decode cX9_partWith 5 = .ok (.astore_n 3, 1) := by decide +kernel
theorem dX9_partWith_6 : decode cX9_partWith 6 = .ok (.aload_n 3, 1) := by decide +kernel
theorem dX9_partWith_7 : decode cX9_partWith 7 = .ok (.iload_n 2, 1) := by decide +kernel
theorem dX9_partWith_8 : decode cX9_partWith 8 = .ok (.invokevirtual 358, 3) := by decide +kernel
theorem dX9_partWith_11 : decode cX9_partWith 11 = .ok (.ifCond .ne 14, 3) := by decide +kernel
theorem dX9_partWith_14 : decode cX9_partWith 14 = .ok (.new 353, 3) := by decide +kernel
theorem dX9_partWith_17 : decode cX9_partWith 17 = .ok (.dup, 1) := by decide +kernel
theorem dX9_partWith_18 : decode cX9_partWith 18 = .ok (.ldc_w 361, 3) := by decide +kernel
theorem dX9_partWith_21 : decode cX9_partWith 21 = .ok (.invokespecial 357, 3) := by decide +kernel
theorem dX9_partWith_24 : decode cX9_partWith 24 = .ok (.athrow, 1) := by decide +kernel
theorem dX9_partWith_25 : decode cX9_partWith 25 = .ok (.aload_n 3, 1) := by decide +kernel
theorem dX9_partWith_26 : decode cX9_partWith 26 = .ok (.areturn, 1) := by decide +kernel
theorem dX9_measureAt_0 : decode cX9_measureAt 0 = .ok (.aload_n 0, 1) := by decide +kernel
theorem dX9_measureAt_1 : decode cX9_measureAt 1 = .ok (.iload_n 1, 1) := by decide +kernel
theorem dX9_measureAt_2 : decode cX9_measureAt 2 = .ok (.invokevirtual 75, 3) := by decide +kernel
theorem dX9_measureAt_5 : decode cX9_measureAt 5 = .ok (.astore_n 3, 1) := by decide +kernel
theorem dX9_measureAt_6 : decode cX9_measureAt 6 = .ok (.iload_n 2, 1) := by decide +kernel
theorem dX9_measureAt_7 : decode cX9_measureAt 7 = .ok (.invokestatic 127, 3) := by decide +kernel
theorem dX9_measureAt_10 : decode cX9_measureAt 10 = .ok (.iload_n 1, 1) := by decide +kernel
theorem dX9_measureAt_11 : decode cX9_measureAt 11 = .ok (.aload_n 0, 1) := by decide +kernel
theorem dX9_measureAt_12 : decode cX9_measureAt 12 = .ok (.getfield 68, 3) := by decide +kernel
theorem dX9_measureAt_15 : decode cX9_measureAt 15 = .ok (.if_icmp .ne 11, 3) := by decide +kernel
theorem dX9_measureAt_18 : decode cX9_measureAt 18 = .ok (.iload_n 2, 1) := by decide +kernel
theorem dX9_measureAt_19 : decode cX9_measureAt 19 = .ok (.aload_n 0, 1) := by decide +kernel
theorem dX9_measureAt_20 : decode cX9_measureAt 20 = .ok (.getfield 72, 3) := by decide +kernel
theorem dX9_measureAt_23 : decode cX9_measureAt 23 = .ok (.if_icmp .eq 26, 3) := by decide +kernel
theorem dX9_measureAt_26 : decode cX9_measureAt 26 = .ok (.aload_n 0, 1) := by decide +kernel
theorem dX9_measureAt_27 : decode cX9_measureAt 27 = .ok (.getfield 26, 3) := by decide +kernel
theorem dX9_measureAt_30 : decode cX9_measureAt 30 = .ok (.aload_n 3, 1) := by decide +kernel
theorem dX9_measureAt_31 : decode cX9_measureAt 31 = .ok (.aload_n 0, 1) := by decide +kernel
theorem dX9_measureAt_32 : decode cX9_measureAt 32 = .ok (.getfield 19, 3) := by decide +kernel
theorem dX9_measureAt_35 : decode cX9_measureAt 35 = .ok (.iload_n 2, 1) := by decide +kernel
theorem dX9_measureAt_36 : decode cX9_measureAt 36 = .ok (.invokevirtual 363, 3) := by decide +kernel
theorem dX9_measureAt_39 : decode cX9_measureAt 39 = .ok (.aload_n 0, 1) := by decide +kernel
theorem dX9_measureAt_40 : decode cX9_measureAt 40 = .ok (.iload_n 1, 1) := by decide +kernel
theorem dX9_measureAt_41 : decode cX9_measureAt 41 = .ok (.putfield 68, 3) := by decide +kernel
theorem dX9_measureAt_44 : decode cX9_measureAt 44 = .ok (.aload_n 0, 1) := by decide +kernel
theorem dX9_measureAt_45 : decode cX9_measureAt 45 = .ok (.iload_n 2, 1) := by decide +kernel
theorem dX9_measureAt_46 : decode cX9_measureAt 46 = .ok (.putfield 72, 3) := by decide +kernel
theorem dX9_measureAt_49 : decode cX9_measureAt 49 = .ok (.aload_n 0, 1) := by decide +kernel
theorem dX9_measureAt_50 : decode cX9_measureAt 50 = .ok (.getfield 26, 3) := by decide +kernel
theorem dX9_measureAt_53 : decode cX9_measureAt 53 = .ok (.areturn, 1) := by decide +kernel
theorem dX9_measureWith_0 : decode cX9_measureWith 0 = .ok (.aload_n 0, 1) := by decide +kernel
theorem dX9_measureWith_1 : decode cX9_measureWith 1 = .ok (.iload_n 1, 1) := by decide +kernel
theorem dX9_measureWith_2 : decode cX9_measureWith 2 = .ok (.iload_n 2, 1) := by decide +kernel
theorem dX9_measureWith_3 : decode cX9_measureWith 3 = .ok (.invokevirtual 190, 3) := by decide +kernel
theorem dX9_measureWith_6 : decode cX9_measureWith 6 = .ok (.astore 4, 2) := by decide +kernel
theorem dX9_measureWith_8 : decode cX9_measureWith 8 = .ok (.aload 4, 2) := by decide +kernel
theorem dX9_measureWith_10 : decode cX9_measureWith 10 = .ok (.iload_n 3, 1) := by decide +kernel
theorem dX9_measureWith_11 : decode cX9_measureWith 11 = .ok (.invokevirtual 367, 3) := by decide +kernel
theorem dX9_measureWith_14 : decode cX9_measureWith 14 = .ok (.ifCond .ne 14, 3) := by decide +kernel
theorem dX9_measureWith_17 : decode cX9_measureWith 17 = .ok (.new 353, 3) := by decide +kernel
theorem dX9_measureWith_20 : decode cX9_measureWith 20 = .ok (.dup, 1) := by decide +kernel
theorem dX9_measureWith_21 : decode cX9_measureWith 21 = .ok (.ldc_w 368, 3) := by decide +kernel
theorem dX9_measureWith_24 : decode cX9_measureWith 24 = .ok (.invokespecial 357, 3) := by decide +kernel
theorem dX9_measureWith_27 : decode cX9_measureWith 27 = .ok (.athrow, 1) := by decide +kernel
theorem dX9_measureWith_28 : decode cX9_measureWith 28 = .ok (.aload 4, 2) := by decide +kernel
theorem dX9_measureWith_30 : decode cX9_measureWith 30 = .ok (.areturn, 1) := by decide +kernel
theorem dX9_chordAt_0 : decode cX9_chordAt 0 = .ok (.aload_n 0, 1) := by decide +kernel
theorem dX9_chordAt_1 : decode cX9_chordAt 1 = .ok (.getfield 40, 3) := by decide +kernel
theorem dX9_chordAt_4 : decode cX9_chordAt 4 = .ok (.aload_n 0, 1) := by decide +kernel
theorem dX9_chordAt_5 : decode cX9_chordAt 5 = .ok (.getfield 11, 3) := by decide +kernel
theorem dX9_chordAt_8 : decode cX9_chordAt 8 = .ok (.aload_n 0, 1) := by decide +kernel
theorem dX9_chordAt_9 : decode cX9_chordAt 9 = .ok (.getfield 33, 3) := by decide +kernel
theorem dX9_chordAt_12 : decode cX9_chordAt 12 = .ok (.iload_n 1, 1) := by decide +kernel
theorem dX9_chordAt_13 : decode cX9_chordAt 13 = .ok (.invokevirtual 370, 3) := by decide +kernel
theorem dX9_chordAt_16 : decode cX9_chordAt 16 = .ok (.aload_n 0, 1) := by decide +kernel
theorem dX9_chordAt_17 : decode cX9_chordAt 17 = .ok (.getfield 40, 3) := by decide +kernel
theorem dX9_chordAt_20 : decode cX9_chordAt 20 = .ok (.areturn, 1) := by decide +kernel
theorem dX9_checkMoment_0 : decode cX9_checkMoment 0 = .ok (.aload_n 0, 1) := by decide +kernel
theorem dX9_checkMoment_1 : decode cX9_checkMoment 1 = .ok (.invokevirtual 225, 3) := by decide +kernel
theorem dX9_checkMoment_4 : decode cX9_checkMoment 4 = .ok (.aload_n 0, 1) := by decide +kernel
theorem dX9_checkMoment_5 : decode cX9_checkMoment 5 = .ok (.getfield 33, 3) := by decide +kernel
theorem dX9_checkMoment_8 : decode cX9_checkMoment 8 = .ok (.iload_n 1, 1) := by decide +kernel
theorem dX9_checkMoment_9 : decode cX9_checkMoment 9 = .ok (.invokevirtual 374, 3) := by decide +kernel
theorem dX9_checkMoment_12 : decode cX9_checkMoment 12 = .ok (.ifCond .ne 14, 3) := by decide +kernel
theorem dX9_checkMoment_15 : decode cX9_checkMoment 15 = .ok (.new 353, 3) := by decide +kernel
theorem dX9_checkMoment_18 : decode cX9_checkMoment 18 = .ok (.dup, 1) := by decide +kernel
theorem dX9_checkMoment_19 : decode cX9_checkMoment 19 = .ok (.ldc_w 375, 3) := by decide +kernel
theorem dX9_checkMoment_22 : decode cX9_checkMoment 22 = .ok (.invokespecial 357, 3) := by decide +kernel
theorem dX9_checkMoment_25 : decode cX9_checkMoment 25 = .ok (.athrow, 1) := by decide +kernel
theorem dX9_checkMoment_26 : decode cX9_checkMoment 26 = .ok (.return_, 1) := by decide +kernel
theorem dX9_checkFault_0 : decode cX9_checkFault 0 = .ok (.aload_n 0, 1) := by decide +kernel
theorem dX9_checkFault_1 : decode cX9_checkFault 1 = .ok (.getfield 47, 3) := by decide +kernel
theorem dX9_checkFault_4 : decode cX9_checkFault 4 = .ok (.iload_n 1, 1) := by decide +kernel
theorem dX9_checkFault_5 : decode cX9_checkFault 5 = .ok (.invokevirtual 377, 3) := by decide +kernel
theorem dX9_checkFault_8 : decode cX9_checkFault 8 = .ok (.ifCond .ne 14, 3) := by decide +kernel
theorem dX9_checkFault_11 : decode cX9_checkFault 11 = .ok (.new 353, 3) := by decide +kernel
theorem dX9_checkFault_14 : decode cX9_checkFault 14 = .ok (.dup, 1) := by decide +kernel
theorem dX9_checkFault_15 : decode cX9_checkFault 15 = .ok (.ldc_w 378, 3) := by decide +kernel
theorem dX9_checkFault_18 : decode cX9_checkFault 18 = .ok (.invokespecial 357, 3) := by decide +kernel
theorem dX9_checkFault_21 : decode cX9_checkFault 21 = .ok (.athrow, 1) := by decide +kernel
theorem dX9_checkFault_22 : decode cX9_checkFault 22 = .ok (.return_, 1) := by decide +kernel
theorem dX9_checkRoom_0 : decode cX9_checkRoom 0 = .ok (.aload_n 0, 1) := by decide +kernel
theorem dX9_checkRoom_1 : decode cX9_checkRoom 1 = .ok (.invokevirtual 380, 3) := by decide +kernel
theorem dX9_checkRoom_4 : decode cX9_checkRoom 4 = .ok (.sipush 512, 3) := by decide +kernel
theorem dX9_checkRoom_7 : decode cX9_checkRoom 7 = .ok (.if_icmp .ge 19, 3) := by decide +kernel
theorem dX9_checkRoom_10 : decode cX9_checkRoom 10 = .ok (.aload_n 1, 1) := by decide +kernel
theorem dX9_checkRoom_11 : decode cX9_checkRoom 11 = .ok (.invokevirtual 219, 3) := by decide +kernel
theorem dX9_checkRoom_14 : decode cX9_checkRoom 14 = .ok (.iload_n 2, 1) := by decide +kernel
theorem dX9_checkRoom_15 : decode cX9_checkRoom 15 = .ok (.iadd, 1) := by decide +kernel
theorem dX9_checkRoom_16 : decode cX9_checkRoom 16 = .ok (.aload_n 0, 1) := by decide +kernel
theorem dX9_checkRoom_17 : decode cX9_checkRoom 17 = .ok (.getfield 19, 3) := by decide +kernel
theorem dX9_checkRoom_20 : decode cX9_checkRoom 20 = .ok (.invokevirtual 383, 3) := by decide +kernel
theorem dX9_checkRoom_23 : decode cX9_checkRoom 23 = .ok (.if_icmp .le 14, 3) := by decide +kernel
theorem dX9_checkRoom_26 : decode cX9_checkRoom 26 = .ok (.new 102, 3) := by decide +kernel
theorem dX9_checkRoom_29 : decode cX9_checkRoom 29 = .ok (.dup, 1) := by decide +kernel
theorem dX9_checkRoom_30 : decode cX9_checkRoom 30 = .ok (.ldc_w 384, 3) := by decide +kernel
theorem dX9_checkRoom_33 : decode cX9_checkRoom 33 = .ok (.invokespecial 106, 3) := by decide +kernel
theorem dX9_checkRoom_36 : decode cX9_checkRoom 36 = .ok (.athrow, 1) := by decide +kernel
theorem dX9_checkRoom_37 : decode cX9_checkRoom 37 = .ok (.return_, 1) := by decide +kernel
theorem dX9_checkNote_0 : decode cX9_checkNote 0 = .ok (.aload_n 0, 1) := by decide +kernel
theorem dX9_checkNote_1 : decode cX9_checkNote 1 = .ok (.iload_n 1, 1) := by decide +kernel
theorem dX9_checkNote_2 : decode cX9_checkNote 2 = .ok (.invokevirtual 386, 3) := by decide +kernel
theorem dX9_checkNote_5 : decode cX9_checkNote 5 = .ok (.ifCond .ne 14, 3) := by decide +kernel
theorem dX9_checkNote_8 : decode cX9_checkNote 8 = .ok (.new 102, 3) := by decide +kernel
theorem dX9_checkNote_11 : decode cX9_checkNote 11 = .ok (.dup, 1) := by decide +kernel
theorem dX9_checkNote_12 : decode cX9_checkNote 12 = .ok (.ldc_w 389, 3) := by decide +kernel
theorem dX9_checkNote_15 : decode cX9_checkNote 15 = .ok (.invokespecial 106, 3) := by decide +kernel
theorem dX9_checkNote_18 : decode cX9_checkNote 18 = .ok (.athrow, 1) := by decide +kernel
theorem dX9_checkNote_19 : decode cX9_checkNote 19 = .ok (.return_, 1) := by decide +kernel
theorem dX9_checkBar_0 : decode cX9_checkBar 0 = .ok (.iload_n 0, 1) := by decide +kernel
theorem dX9_checkBar_1 : decode cX9_checkBar 1 = .ok (.ifCond .lt 9, 3) := by decide +kernel
theorem dX9_checkBar_4 : decode cX9_checkBar 4 = .ok (.iload_n 0, 1) := by decide +kernel
theorem dX9_checkBar_5 : decode cX9_checkBar 5 = .ok (.bipush 24, 2) := by decide +kernel
theorem dX9_checkBar_7 : decode cX9_checkBar 7 = .ok (.if_icmp .lt 14, 3) := by decide +kernel
theorem dX9_checkBar_10 : decode cX9_checkBar 10 = .ok (.new 353, 3) := by decide +kernel
theorem dX9_checkBar_13 : decode cX9_checkBar 13 = .ok (.dup, 1) := by decide +kernel
theorem dX9_checkBar_14 : decode cX9_checkBar 14 = .ok (.ldc_w 391, 3) := by decide +kernel
theorem dX9_checkBar_17 : decode cX9_checkBar 17 = .ok (.invokespecial 357, 3) := by decide +kernel
theorem dX9_checkBar_20 : decode cX9_checkBar 20 = .ok (.athrow, 1) := by decide +kernel
theorem dX9_checkBar_21 : decode cX9_checkBar 21 = .ok (.return_, 1) := by decide +kernel
theorem dX9_checkPitch_0 : decode cX9_checkPitch 0 = .ok (.iload_n 0, 1) := by decide +kernel
theorem dX9_checkPitch_1 : decode cX9_checkPitch 1 = .ok (.iload_n 1, 1) := by decide +kernel
theorem dX9_checkPitch_2 : decode cX9_checkPitch 2 = .ok (.invokestatic 393, 3) := by decide +kernel
theorem dX9_checkPitch_5 : decode cX9_checkPitch 5 = .ok (.ifCond .ne 14, 3) := by decide +kernel
theorem dX9_checkPitch_8 : decode cX9_checkPitch 8 = .ok (.new 130, 3) := by decide +kernel
theorem dX9_checkPitch_11 : decode cX9_checkPitch 11 = .ok (.dup, 1) := by decide +kernel
theorem dX9_checkPitch_12 : decode cX9_checkPitch 12 = .ok (.ldc_w 397, 3) := by decide +kernel
theorem dX9_checkPitch_15 : decode cX9_checkPitch 15 = .ok (.invokespecial 134, 3) := by decide +kernel
theorem dX9_checkPitch_18 : decode cX9_checkPitch 18 = .ok (.athrow, 1) := by decide +kernel
theorem dX9_checkPitch_19 : decode cX9_checkPitch 19 = .ok (.return_, 1) := by decide +kernel
theorem dX9_checkValue_0 : decode cX9_checkValue 0 = .ok (.iload_n 0, 1) := by decide +kernel
theorem dX9_checkValue_1 : decode cX9_checkValue 1 = .ok (.invokestatic 399, 3) := by decide +kernel
theorem dX9_checkValue_4 : decode cX9_checkValue 4 = .ok (.ifCond .ne 14, 3) := by decide +kernel
theorem dX9_checkValue_7 : decode cX9_checkValue 7 = .ok (.new 130, 3) := by decide +kernel
theorem dX9_checkValue_10 : decode cX9_checkValue 10 = .ok (.dup, 1) := by decide +kernel
theorem dX9_checkValue_11 : decode cX9_checkValue 11 = .ok (.ldc_w 404, 3) := by decide +kernel
theorem dX9_checkValue_14 : decode cX9_checkValue 14 = .ok (.invokespecial 134, 3) := by decide +kernel
theorem dX9_checkValue_17 : decode cX9_checkValue 17 = .ok (.athrow, 1) := by decide +kernel
theorem dX9_checkValue_18 : decode cX9_checkValue 18 = .ok (.return_, 1) := by decide +kernel
theorem dX9_checkKey_0 : decode cX9_checkKey 0 = .ok (.iload_n 0, 1) := by decide +kernel
theorem dX9_checkKey_1 : decode cX9_checkKey 1 = .ok (.bipush (-7), 2) := by decide +kernel
theorem dX9_checkKey_3 : decode cX9_checkKey 3 = .ok (.if_icmp .lt 9, 3) := by decide +kernel
theorem dX9_checkKey_6 : decode cX9_checkKey 6 = .ok (.iload_n 0, 1) := by decide +kernel
theorem dX9_checkKey_7 : decode cX9_checkKey 7 = .ok (.bipush 7, 2) := by decide +kernel
theorem dX9_checkKey_9 : decode cX9_checkKey 9 = .ok (.if_icmp .le 14, 3) := by decide +kernel
theorem dX9_checkKey_12 : decode cX9_checkKey 12 = .ok (.new 130, 3) := by decide +kernel
theorem dX9_checkKey_15 : decode cX9_checkKey 15 = .ok (.dup, 1) := by decide +kernel
theorem dX9_checkKey_16 : decode cX9_checkKey 16 = .ok (.ldc_w 406, 3) := by decide +kernel
theorem dX9_checkKey_19 : decode cX9_checkKey 19 = .ok (.invokespecial 134, 3) := by decide +kernel
theorem dX9_checkKey_22 : decode cX9_checkKey 22 = .ok (.athrow, 1) := by decide +kernel
theorem dX9_checkKey_23 : decode cX9_checkKey 23 = .ok (.return_, 1) := by decide +kernel
theorem dX9_checkWidth_0 : decode cX9_checkWidth 0 = .ok (.iload_n 0, 1) := by decide +kernel
theorem dX9_checkWidth_1 : decode cX9_checkWidth 1 = .ok (.bipush 10, 2) := by decide +kernel
theorem dX9_checkWidth_3 : decode cX9_checkWidth 3 = .ok (.if_icmp .lt 10, 3) := by decide +kernel
theorem dX9_checkWidth_6 : decode cX9_checkWidth 6 = .ok (.iload_n 0, 1) := by decide +kernel
theorem dX9_checkWidth_7 : decode cX9_checkWidth 7 = .ok (.sipush 400, 3) := by decide +kernel
theorem dX9_checkWidth_10 : decode cX9_checkWidth 10 = .ok (.if_icmp .le 14, 3) := by decide +kernel
theorem dX9_checkWidth_13 : decode cX9_checkWidth 13 = .ok (.new 130, 3) := by decide +kernel
theorem dX9_checkWidth_16 : decode cX9_checkWidth 16 = .ok (.dup, 1) := by decide +kernel
theorem dX9_checkWidth_17 : decode cX9_checkWidth 17 = .ok (.ldc_w 408, 3) := by decide +kernel
theorem dX9_checkWidth_20 : decode cX9_checkWidth 20 = .ok (.invokespecial 134, 3) := by decide +kernel
theorem dX9_checkWidth_23 : decode cX9_checkWidth 23 = .ok (.athrow, 1) := by decide +kernel
theorem dX9_checkWidth_24 : decode cX9_checkWidth 24 = .ok (.return_, 1) := by decide +kernel
theorem dJ6_compare_7cf53_0 : decode cJ6_compare_7cf53 0 = .ok (.iload_n 0, 1) := by decide +kernel
theorem dJ6_compare_7cf53_1 : decode cJ6_compare_7cf53 1 = .ok (.iload_n 1, 1) := by decide +kernel
theorem dJ6_compare_7cf53_2 : decode cJ6_compare_7cf53 2 = .ok (.if_icmp .ge 7, 3) := by decide +kernel
theorem dJ6_compare_7cf53_5 : decode cJ6_compare_7cf53 5 = .ok (.iconst (-1), 1) := by decide +kernel
theorem dJ6_compare_7cf53_6 : decode cJ6_compare_7cf53 6 = .ok (.goto 13, 3) := by decide +kernel
theorem dJ6_compare_7cf53_9 : decode cJ6_compare_7cf53 9 = .ok (.iload_n 0, 1) := by decide +kernel
theorem dJ6_compare_7cf53_10 : decode cJ6_compare_7cf53 10 = .ok (.iload_n 1, 1) := by decide +kernel
theorem dJ6_compare_7cf53_11 : decode cJ6_compare_7cf53 11 = .ok (.if_icmp .ne 7, 3) := by decide +kernel
theorem dJ6_compare_7cf53_14 : decode cJ6_compare_7cf53 14 = .ok (.iconst 0, 1) := by decide +kernel
theorem dJ6_compare_7cf53_15 : decode cJ6_compare_7cf53 15 = .ok (.goto 4, 3) := by decide +kernel
theorem dJ6_compare_7cf53_18 : decode cJ6_compare_7cf53 18 = .ok (.iconst 1, 1) := by decide +kernel
theorem dJ6_compare_7cf53_19 : decode cJ6_compare_7cf53 19 = .ok (.ireturn, 1) := by decide +kernel
theorem dJ6_bitCount_0f7a4_0 : decode cJ6_bitCount_0f7a4 0 = .ok (.iload_n 0, 1) := by decide +kernel
theorem dJ6_bitCount_0f7a4_1 : decode cJ6_bitCount_0f7a4 1 = .ok (.iload_n 0, 1) := by decide +kernel
theorem dJ6_bitCount_0f7a4_2 : decode cJ6_bitCount_0f7a4 2 = .ok (.iconst 1, 1) := by decide +kernel
theorem dJ6_bitCount_0f7a4_3 : decode cJ6_bitCount_0f7a4 3 = .ok (.iushr, 1) := by decide +kernel
theorem dJ6_bitCount_0f7a4_4 : decode cJ6_bitCount_0f7a4 4 = .ok (.ldc_w 265, 3) := by decide +kernel
theorem dJ6_bitCount_0f7a4_7 : decode cJ6_bitCount_0f7a4 7 = .ok (.iand, 1) := by decide +kernel
theorem dJ6_bitCount_0f7a4_8 : decode cJ6_bitCount_0f7a4 8 = .ok (.isub, 1) := by decide +kernel
theorem dJ6_bitCount_0f7a4_9 : decode cJ6_bitCount_0f7a4 9 = .ok (.istore_n 0, 1) := by decide +kernel
theorem dJ6_bitCount_0f7a4_10 : decode cJ6_bitCount_0f7a4 10 = .ok (.iload_n 0, 1) := by decide +kernel
theorem dJ6_bitCount_0f7a4_11 : decode cJ6_bitCount_0f7a4 11 = .ok (.ldc_w 266, 3) := by decide +kernel
theorem dJ6_bitCount_0f7a4_14 : decode cJ6_bitCount_0f7a4 14 = .ok (.iand, 1) := by decide +kernel
theorem dJ6_bitCount_0f7a4_15 : decode cJ6_bitCount_0f7a4 15 = .ok (.iload_n 0, 1) := by decide +kernel
theorem dJ6_bitCount_0f7a4_16 : decode cJ6_bitCount_0f7a4 16 = .ok (.iconst 2, 1) := by decide +kernel
theorem dJ6_bitCount_0f7a4_17 : decode cJ6_bitCount_0f7a4 17 = .ok (.iushr, 1) := by decide +kernel
theorem dJ6_bitCount_0f7a4_18 : decode cJ6_bitCount_0f7a4 18 = .ok (.ldc_w 266, 3) := by decide +kernel
theorem dJ6_bitCount_0f7a4_21 : decode cJ6_bitCount_0f7a4 21 = .ok (.iand, 1) := by decide +kernel
theorem dJ6_bitCount_0f7a4_22 : decode cJ6_bitCount_0f7a4 22 = .ok (.iadd, 1) := by decide +kernel
theorem dJ6_bitCount_0f7a4_23 : decode cJ6_bitCount_0f7a4 23 = .ok (.istore_n 0, 1) := by decide +kernel
theorem dJ6_bitCount_0f7a4_24 : decode cJ6_bitCount_0f7a4 24 = .ok (.iload_n 0, 1) := by decide +kernel
theorem dJ6_bitCount_0f7a4_25 : decode cJ6_bitCount_0f7a4 25 = .ok (.iload_n 0, 1) := by decide +kernel
theorem dJ6_bitCount_0f7a4_26 : decode cJ6_bitCount_0f7a4 26 = .ok (.iconst 4, 1) := by decide +kernel
theorem dJ6_bitCount_0f7a4_27 : decode cJ6_bitCount_0f7a4 27 = .ok (.iushr, 1) := by decide +kernel
theorem dJ6_bitCount_0f7a4_28 : decode cJ6_bitCount_0f7a4 28 = .ok (.iadd, 1) := by decide +kernel
theorem dJ6_bitCount_0f7a4_29 : decode cJ6_bitCount_0f7a4 29 = .ok (.ldc_w 267, 3) := by decide +kernel
theorem dJ6_bitCount_0f7a4_32 : decode cJ6_bitCount_0f7a4 32 = .ok (.iand, 1) := by decide +kernel
theorem dJ6_bitCount_0f7a4_33 : decode cJ6_bitCount_0f7a4 33 = .ok (.istore_n 0, 1) := by decide +kernel
theorem dJ6_bitCount_0f7a4_34 : decode cJ6_bitCount_0f7a4 34 = .ok (.iload_n 0, 1) := by decide +kernel
theorem dJ6_bitCount_0f7a4_35 : decode cJ6_bitCount_0f7a4 35 = .ok (.iload_n 0, 1) := by decide +kernel
theorem dJ6_bitCount_0f7a4_36 : decode cJ6_bitCount_0f7a4 36 = .ok (.bipush 8, 2) := by decide +kernel
theorem dJ6_bitCount_0f7a4_38 : decode cJ6_bitCount_0f7a4 38 = .ok (.iushr, 1) := by decide +kernel
theorem dJ6_bitCount_0f7a4_39 : decode cJ6_bitCount_0f7a4 39 = .ok (.iadd, 1) := by decide +kernel
theorem dJ6_bitCount_0f7a4_40 : decode cJ6_bitCount_0f7a4 40 = .ok (.istore_n 0, 1) := by decide +kernel
theorem dJ6_bitCount_0f7a4_41 : decode cJ6_bitCount_0f7a4 41 = .ok (.iload_n 0, 1) := by decide +kernel
theorem dJ6_bitCount_0f7a4_42 : decode cJ6_bitCount_0f7a4 42 = .ok (.iload_n 0, 1) := by decide +kernel
theorem dJ6_bitCount_0f7a4_43 : decode cJ6_bitCount_0f7a4 43 = .ok (.bipush 16, 2) := by decide +kernel
theorem dJ6_bitCount_0f7a4_45 : decode cJ6_bitCount_0f7a4 45 = .ok (.iushr, 1) := by decide +kernel
theorem dJ6_bitCount_0f7a4_46 : decode cJ6_bitCount_0f7a4 46 = .ok (.iadd, 1) := by decide +kernel
theorem dJ6_bitCount_0f7a4_47 : decode cJ6_bitCount_0f7a4 47 = .ok (.istore_n 0, 1) := by decide +kernel
theorem dJ6_bitCount_0f7a4_48 : decode cJ6_bitCount_0f7a4 48 = .ok (.iload_n 0, 1) := by decide +kernel
theorem dJ6_bitCount_0f7a4_49 : decode cJ6_bitCount_0f7a4 49 = .ok (.bipush 63, 2) := by decide +kernel
theorem dJ6_bitCount_0f7a4_51 : decode cJ6_bitCount_0f7a4 51 = .ok (.iand, 1) := by decide +kernel
theorem dJ6_bitCount_0f7a4_52 : decode cJ6_bitCount_0f7a4 52 = .ok (.ireturn, 1) := by decide +kernel
theorem dJ9_floorDiv_7cf53_0 : decode cJ9_floorDiv_7cf53 0 = .ok (.iload_n 0, 1) := by decide +kernel
theorem dJ9_floorDiv_7cf53_1 : decode cJ9_floorDiv_7cf53 1 = .ok (.iload_n 1, 1) := by decide +kernel
theorem dJ9_floorDiv_7cf53_2 : decode cJ9_floorDiv_7cf53 2 = .ok (.idiv, 1) := by decide +kernel
theorem dJ9_floorDiv_7cf53_3 : decode cJ9_floorDiv_7cf53 3 = .ok (.istore_n 2, 1) := by decide +kernel
theorem dJ9_floorDiv_7cf53_4 : decode cJ9_floorDiv_7cf53 4 = .ok (.iload_n 0, 1) := by decide +kernel
theorem dJ9_floorDiv_7cf53_5 : decode cJ9_floorDiv_7cf53 5 = .ok (.iload_n 1, 1) := by decide +kernel
theorem dJ9_floorDiv_7cf53_6 : decode cJ9_floorDiv_7cf53 6 = .ok (.ixor, 1) := by decide +kernel
theorem dJ9_floorDiv_7cf53_7 : decode cJ9_floorDiv_7cf53 7 = .ok (.ifCond .ge 14, 3) := by decide +kernel
theorem dJ9_floorDiv_7cf53_10 : decode cJ9_floorDiv_7cf53 10 = .ok (.iload_n 2, 1) := by decide +kernel
theorem dJ9_floorDiv_7cf53_11 : decode cJ9_floorDiv_7cf53 11 = .ok (.iload_n 1, 1) := by decide +kernel
theorem dJ9_floorDiv_7cf53_12 : decode cJ9_floorDiv_7cf53 12 = .ok (.imul, 1) := by decide +kernel
theorem dJ9_floorDiv_7cf53_13 : decode cJ9_floorDiv_7cf53 13 = .ok (.iload_n 0, 1) := by decide +kernel
theorem dJ9_floorDiv_7cf53_14 : decode cJ9_floorDiv_7cf53 14 = .ok (.if_icmp .eq 7, 3) := by decide +kernel
theorem dJ9_floorDiv_7cf53_17 : decode cJ9_floorDiv_7cf53 17 = .ok (.iload_n 2, 1) := by decide +kernel
theorem dJ9_floorDiv_7cf53_18 : decode cJ9_floorDiv_7cf53 18 = .ok (.iconst 1, 1) := by decide +kernel
theorem dJ9_floorDiv_7cf53_19 : decode cJ9_floorDiv_7cf53 19 = .ok (.isub, 1) := by decide +kernel
theorem dJ9_floorDiv_7cf53_20 : decode cJ9_floorDiv_7cf53 20 = .ok (.ireturn, 1) := by decide +kernel
theorem dJ9_floorDiv_7cf53_21 : decode cJ9_floorDiv_7cf53 21 = .ok (.iload_n 2, 1) := by decide +kernel
theorem dJ9_floorDiv_7cf53_22 : decode cJ9_floorDiv_7cf53 22 = .ok (.ireturn, 1) := by decide +kernel
theorem dJ9_floorMod_7cf53_0 : decode cJ9_floorMod_7cf53 0 = .ok (.iload_n 0, 1) := by decide +kernel
theorem dJ9_floorMod_7cf53_1 : decode cJ9_floorMod_7cf53 1 = .ok (.iload_n 1, 1) := by decide +kernel
theorem dJ9_floorMod_7cf53_2 : decode cJ9_floorMod_7cf53 2 = .ok (.irem, 1) := by decide +kernel
theorem dJ9_floorMod_7cf53_3 : decode cJ9_floorMod_7cf53 3 = .ok (.istore_n 2, 1) := by decide +kernel
theorem dJ9_floorMod_7cf53_4 : decode cJ9_floorMod_7cf53 4 = .ok (.iload_n 0, 1) := by decide +kernel
theorem dJ9_floorMod_7cf53_5 : decode cJ9_floorMod_7cf53 5 = .ok (.iload_n 1, 1) := by decide +kernel
theorem dJ9_floorMod_7cf53_6 : decode cJ9_floorMod_7cf53 6 = .ok (.ixor, 1) := by decide +kernel
theorem dJ9_floorMod_7cf53_7 : decode cJ9_floorMod_7cf53 7 = .ok (.ifCond .ge 11, 3) := by decide +kernel
theorem dJ9_floorMod_7cf53_10 : decode cJ9_floorMod_7cf53 10 = .ok (.iload_n 2, 1) := by decide +kernel
theorem dJ9_floorMod_7cf53_11 : decode cJ9_floorMod_7cf53 11 = .ok (.ifCond .eq 7, 3) := by decide +kernel
theorem dJ9_floorMod_7cf53_14 : decode cJ9_floorMod_7cf53 14 = .ok (.iload_n 2, 1) := by decide +kernel
theorem dJ9_floorMod_7cf53_15 : decode cJ9_floorMod_7cf53 15 = .ok (.iload_n 1, 1) := by decide +kernel
theorem dJ9_floorMod_7cf53_16 : decode cJ9_floorMod_7cf53 16 = .ok (.iadd, 1) := by decide +kernel
theorem dJ9_floorMod_7cf53_17 : decode cJ9_floorMod_7cf53 17 = .ok (.ireturn, 1) := by decide +kernel
theorem dJ9_floorMod_7cf53_18 : decode cJ9_floorMod_7cf53 18 = .ok (.iload_n 2, 1) := by decide +kernel
theorem dJ9_floorMod_7cf53_19 : decode cJ9_floorMod_7cf53 19 = .ok (.ireturn, 1) := by decide +kernel
theorem dJ9_abs_0f7a4_0 : decode cJ9_abs_0f7a4 0 = .ok (.iload_n 0, 1) := by decide +kernel
theorem dJ9_abs_0f7a4_1 : decode cJ9_abs_0f7a4 1 = .ok (.ifCond .ge 8, 3) := by decide +kernel
theorem dJ9_abs_0f7a4_4 : decode cJ9_abs_0f7a4 4 = .ok (.iload_n 0, 1) := by decide +kernel
theorem dJ9_abs_0f7a4_5 : decode cJ9_abs_0f7a4 5 = .ok (.ineg, 1) := by decide +kernel
theorem dJ9_abs_0f7a4_6 : decode cJ9_abs_0f7a4 6 = .ok (.goto 4, 3) := by decide +kernel
theorem dJ9_abs_0f7a4_9 : decode cJ9_abs_0f7a4 9 = .ok (.iload_n 0, 1) := by decide +kernel
theorem dJ9_abs_0f7a4_10 : decode cJ9_abs_0f7a4 10 = .ok (.ireturn, 1) := by decide +kernel
theorem dJ9_max_7cf53_0 : decode cJ9_max_7cf53 0 = .ok (.iload_n 0, 1) := by decide +kernel
theorem dJ9_max_7cf53_1 : decode cJ9_max_7cf53 1 = .ok (.iload_n 1, 1) := by decide +kernel
theorem dJ9_max_7cf53_2 : decode cJ9_max_7cf53 2 = .ok (.if_icmp .lt 7, 3) := by decide +kernel
theorem dJ9_max_7cf53_5 : decode cJ9_max_7cf53 5 = .ok (.iload_n 0, 1) := by decide +kernel
theorem dJ9_max_7cf53_6 : decode cJ9_max_7cf53 6 = .ok (.goto 4, 3) := by decide +kernel
theorem dJ9_max_7cf53_9 : decode cJ9_max_7cf53 9 = .ok (.iload_n 1, 1) := by decide +kernel
theorem dJ9_max_7cf53_10 : decode cJ9_max_7cf53 10 = .ok (.ireturn, 1) := by decide +kernel
theorem dJ9_min_7cf53_0 : decode cJ9_min_7cf53 0 = .ok (.iload_n 0, 1) := by decide +kernel
theorem dJ9_min_7cf53_1 : decode cJ9_min_7cf53 1 = .ok (.iload_n 1, 1) := by decide +kernel
theorem dJ9_min_7cf53_2 : decode cJ9_min_7cf53 2 = .ok (.if_icmp .gt 7, 3) := by decide +kernel
theorem dJ9_min_7cf53_5 : decode cJ9_min_7cf53 5 = .ok (.iload_n 0, 1) := by decide +kernel
theorem dJ9_min_7cf53_6 : decode cJ9_min_7cf53 6 = .ok (.goto 4, 3) := by decide +kernel
theorem dJ9_min_7cf53_9 : decode cJ9_min_7cf53 9 = .ok (.iload_n 1, 1) := by decide +kernel
theorem dJ9_min_7cf53_10 : decode cJ9_min_7cf53 10 = .ok (.ireturn, 1) := by decide +kernel
theorem dJ7_fill_53178_0 : decode cJ7_fill_53178 0 = .ok (.iconst 0, 1) := by decide +kernel
theorem dJ7_fill_53178_1 : decode cJ7_fill_53178 1 = .ok (.istore_n 2, 1) := by decide +kernel
theorem dJ7_fill_53178_2 : decode cJ7_fill_53178 2 = .ok (.aload_n 0, 1) := by decide +kernel
theorem dJ7_fill_53178_3 : decode cJ7_fill_53178 3 = .ok (.arraylength, 1) := by decide +kernel
theorem dJ7_fill_53178_4 : decode cJ7_fill_53178 4 = .ok (.istore_n 3, 1) := by decide +kernel
theorem dJ7_fill_53178_5 : decode cJ7_fill_53178 5 = .ok (.iload_n 2, 1) := by decide +kernel
theorem dJ7_fill_53178_6 : decode cJ7_fill_53178 6 = .ok (.iload_n 3, 1) := by decide +kernel
theorem dJ7_fill_53178_7 : decode cJ7_fill_53178 7 = .ok (.if_icmp .ge 13, 3) := by decide +kernel
theorem dJ7_fill_53178_10 : decode cJ7_fill_53178 10 = .ok (.aload_n 0, 1) := by decide +kernel
theorem dJ7_fill_53178_11 : decode cJ7_fill_53178 11 = .ok (.iload_n 2, 1) := by decide +kernel
theorem dJ7_fill_53178_12 : decode cJ7_fill_53178 12 = .ok (.iload_n 1, 1) := by decide +kernel
theorem dJ7_fill_53178_13 : decode cJ7_fill_53178 13 = .ok (.iastore, 1) := by decide +kernel
theorem dJ7_fill_53178_14 : decode cJ7_fill_53178 14 = .ok (.iinc 2 1, 3) := by decide +kernel
theorem dJ7_fill_53178_17 : decode cJ7_fill_53178 17 = .ok (.goto (-12), 3) := by decide +kernel
theorem dJ7_fill_53178_20 : decode cJ7_fill_53178 20 = .ok (.return_, 1) := by decide +kernel
theorem dL_below_0 : decode cL_below 0 = .ok (.iload_n 0, 1) := by decide +kernel
theorem dL_below_1 : decode cL_below 1 = .ok (.ldc 7, 2) := by decide +kernel
theorem dL_below_3 : decode cL_below 3 = .ok (.iand, 1) := by decide +kernel
theorem dL_below_4 : decode cL_below 4 = .ok (.iload_n 1, 1) := by decide +kernel
theorem dL_below_5 : decode cL_below 5 = .ok (.irem, 1) := by decide +kernel
theorem dL_below_6 : decode cL_below 6 = .ok (.ireturn, 1) := by decide +kernel
theorem dL_cell_0 : decode cL_cell 0 = .ok (.iload_n 1, 1) := by decide +kernel
theorem dL_cell_1 : decode cL_cell 1 = .ok (.aload_n 0, 1) := by decide +kernel
theorem dL_cell_2 : decode cL_cell 2 = .ok (.arraylength, 1) := by decide +kernel
theorem dL_cell_3 : decode cL_cell 3 = .ok (.if_icmp .ge 9, 3) := by decide +kernel
theorem dL_cell_6 : decode cL_cell 6 = .ok (.aload_n 0, 1) := by decide +kernel
theorem dL_cell_7 : decode cL_cell 7 = .ok (.iload_n 1, 1) := by decide +kernel
theorem dL_cell_8 : decode cL_cell 8 = .ok (.iaload, 1) := by decide +kernel
theorem dL_cell_9 : decode cL_cell 9 = .ok (.goto 9, 3) := by decide +kernel
theorem dL_cell_12 : decode cL_cell 12 = .ok (.ldc 8, 2) := by decide +kernel
theorem dL_cell_14 : decode cL_cell 14 = .ok (.iload_n 1, 1) := by decide +kernel
theorem dL_cell_15 : decode cL_cell 15 = .ok (.iconst 3, 1) := by decide +kernel
theorem dL_cell_16 : decode cL_cell 16 = .ok (.iadd, 1) := by decide +kernel
theorem dL_cell_17 : decode cL_cell 17 = .ok (.imul, 1) := by decide +kernel
theorem dL_cell_18 : decode cL_cell 18 = .ok (.ireturn, 1) := by decide +kernel
theorem dL_act_0 : decode cL_act 0 = .ok (.bipush 10, 2) := by decide +kernel
theorem dL_act_2 : decode cL_act 2 = .ok (.newarray .int, 2) := by decide +kernel
theorem dL_act_4 : decode cL_act 4 = .ok (.dup, 1) := by decide +kernel
theorem dL_act_5 : decode cL_act 5 = .ok (.iconst 0, 1) := by decide +kernel
theorem dL_act_6 : decode cL_act 6 = .ok (.iconst 4, 1) := by decide +kernel
theorem dL_act_7 : decode cL_act 7 = .ok (.iastore, 1) := by decide +kernel
theorem dL_act_8 : decode cL_act 8 = .ok (.dup, 1) := by decide +kernel
theorem dL_act_9 : decode cL_act 9 = .ok (.iconst 1, 1) := by decide +kernel
theorem dL_act_10 : decode cL_act 10 = .ok (.bipush 6, 2) := by decide +kernel
theorem dL_act_12 : decode cL_act 12 = .ok (.iastore, 1) := by decide +kernel
theorem dL_act_13 : decode cL_act 13 = .ok (.dup, 1) := by decide +kernel
theorem dL_act_14 : decode cL_act 14 = .ok (.iconst 2, 1) := by decide +kernel
theorem dL_act_15 : decode cL_act 15 = .ok (.bipush 8, 2) := by decide +kernel
theorem dL_act_17 : decode cL_act 17 = .ok (.iastore, 1) := by decide +kernel
theorem dL_act_18 : decode cL_act 18 = .ok (.dup, 1) := by decide +kernel
theorem dL_act_19 : decode cL_act 19 = .ok (.iconst 3, 1) := by decide +kernel
theorem dL_act_20 : decode cL_act 20 = .ok (.bipush 12, 2) := by decide +kernel
theorem dL_act_22 : decode cL_act 22 = .ok (.iastore, 1) := by decide +kernel
theorem dL_act_23 : decode cL_act 23 = .ok (.dup, 1) := by decide +kernel
theorem dL_act_24 : decode cL_act 24 = .ok (.iconst 4, 1) := by decide +kernel
theorem dL_act_25 : decode cL_act 25 = .ok (.bipush 16, 2) := by decide +kernel
theorem dL_act_27 : decode cL_act 27 = .ok (.iastore, 1) := by decide +kernel
theorem dL_act_28 : decode cL_act 28 = .ok (.dup, 1) := by decide +kernel
theorem dL_act_29 : decode cL_act 29 = .ok (.iconst 5, 1) := by decide +kernel
theorem dL_act_30 : decode cL_act 30 = .ok (.bipush 24, 2) := by decide +kernel
theorem dL_act_32 : decode cL_act 32 = .ok (.iastore, 1) := by decide +kernel
theorem dL_act_33 : decode cL_act 33 = .ok (.dup, 1) := by decide +kernel
theorem dL_act_34 : decode cL_act 34 = .ok (.bipush 6, 2) := by decide +kernel
theorem dL_act_36 : decode cL_act 36 = .ok (.bipush 32, 2) := by decide +kernel
theorem dL_act_38 : decode cL_act 38 = .ok (.iastore, 1) := by decide +kernel
theorem dL_act_39 : decode cL_act 39 = .ok (.dup, 1) := by decide +kernel
theorem dL_act_40 : decode cL_act 40 = .ok (.bipush 7, 2) := by decide +kernel
theorem dL_act_42 : decode cL_act 42 = .ok (.bipush 48, 2) := by decide +kernel
theorem dL_act_44 : decode cL_act 44 = .ok (.iastore, 1) := by decide +kernel
theorem dL_act_45 : decode cL_act 45 = .ok (.dup, 1) := by decide +kernel
theorem dL_act_46 : decode cL_act 46 = .ok (.bipush 8, 2) := by decide +kernel
theorem dL_act_48 : decode cL_act 48 = .ok (.bipush 64, 2) := by decide +kernel
theorem dL_act_50 : decode cL_act 50 = .ok (.iastore, 1) := by decide +kernel
theorem dL_act_51 : decode cL_act 51 = .ok (.dup, 1) := by decide +kernel
theorem dL_act_52 : decode cL_act 52 = .ok (.bipush 9, 2) := by decide +kernel
theorem dL_act_54 : decode cL_act 54 = .ok (.bipush 96, 2) := by decide +kernel
theorem dL_act_56 : decode cL_act 56 = .ok (.iastore, 1) := by decide +kernel
theorem dL_act_57 : decode cL_act 57 = .ok (.astore_n 2, 1) := by decide +kernel
theorem dL_act_58 : decode cL_act 58 = .ok (.iload_n 1, 1) := by decide +kernel
theorem dL_act_59 : decode cL_act 59 = .ok (.iconst 3, 1) := by decide +kernel
theorem dL_act_60 : decode cL_act 60 = .ok (.ishr, 1) := by decide +kernel
theorem dL_act_61 : decode cL_act 61 = .ok (.iconst 4, 1) := by decide +kernel
theorem dL_act_62 : decode cL_act 62 = .ok (.invokestatic 34, 3) := by decide +kernel
theorem dL_act_65 : decode cL_act 65 = .ok (.istore_n 3, 1) := by decide +kernel
theorem dL_act_66 : decode cL_act 66 = .ok (.iload_n 1, 1) := by decide +kernel
theorem dL_act_67 : decode cL_act 67 = .ok (.iconst 5, 1) := by decide +kernel
theorem dL_act_68 : decode cL_act 68 = .ok (.ishr, 1) := by decide +kernel
theorem dL_act_69 : decode cL_act 69 = .ok (.bipush 24, 2) := by decide +kernel
theorem dL_act_71 : decode cL_act 71 = .ok (.invokestatic 34, 3) := by decide +kernel
theorem dL_act_74 : decode cL_act 74 = .ok (.istore 4, 2) := by decide +kernel
theorem dL_act_76 : decode cL_act 76 = .ok (.iload_n 1, 1) := by decide +kernel
theorem dL_act_77 : decode cL_act 77 = .ok (.bipush 12, 2) := by decide +kernel
theorem dL_act_79 : decode cL_act 79 = .ok (.invokestatic 34, 3) := by decide +kernel
theorem dL_act_82 : decode cL_act 82 = .ok (.tableswitch 233 0 6 #[42, 62, 71, 102, 124, 155, 187], 42) := by decide +kernel
theorem dL_act_124 : decode cL_act 124 = .ok (.aload_n 0, 1) := by decide +kernel
theorem dL_act_125 : decode cL_act 125 = .ok (.iload_n 3, 1) := by decide +kernel
theorem dL_act_126 : decode cL_act 126 = .ok (.aload_n 2, 1) := by decide +kernel
theorem dL_act_127 : decode cL_act 127 = .ok (.iload_n 1, 1) := by decide +kernel
theorem dL_act_128 : decode cL_act 128 = .ok (.bipush 6, 2) := by decide +kernel
theorem dL_act_130 : decode cL_act 130 = .ok (.ishr, 1) := by decide +kernel
theorem dL_act_131 : decode cL_act 131 = .ok (.bipush 10, 2) := by decide +kernel
theorem dL_act_133 : decode cL_act 133 = .ok (.invokestatic 34, 3) := by decide +kernel
theorem dL_act_136 : decode cL_act 136 = .ok (.iaload, 1) := by decide +kernel
theorem dL_act_137 : decode cL_act 137 = .ok (.invokevirtual 42, 3) := by decide +kernel
theorem dL_act_140 : decode cL_act 140 = .ok (.pop, 1) := by decide +kernel
theorem dL_act_141 : decode cL_act 141 = .ok (.goto 228, 3) := by decide +kernel
theorem dL_act_144 : decode cL_act 144 = .ok (.aload_n 0, 1) := by decide +kernel
theorem dL_act_145 : decode cL_act 145 = .ok (.iload_n 3, 1) := by decide +kernel
theorem dL_act_146 : decode cL_act 146 = .ok (.invokevirtual 45, 3) := by decide +kernel
theorem dL_act_149 : decode cL_act 149 = .ok (.pop, 1) := by decide +kernel
theorem dL_act_150 : decode cL_act 150 = .ok (.goto 219, 3) := by decide +kernel
theorem dL_act_153 : decode cL_act 153 = .ok (.aload_n 0, 1) := by decide +kernel
theorem dL_act_154 : decode cL_act 154 = .ok (.iload 4, 2) := by decide +kernel
theorem dL_act_156 : decode cL_act 156 = .ok (.iconst 1, 1) := by decide +kernel
theorem dL_act_157 : decode cL_act 157 = .ok (.iload_n 1, 1) := by decide +kernel
theorem dL_act_158 : decode cL_act 158 = .ok (.bipush 8, 2) := by decide +kernel
theorem dL_act_160 : decode cL_act 160 = .ok (.ishr, 1) := by decide +kernel
theorem dL_act_161 : decode cL_act 161 = .ok (.bipush 12, 2) := by decide +kernel
theorem dL_act_163 : decode cL_act 163 = .ok (.invokestatic 34, 3) := by decide +kernel
theorem dL_act_166 : decode cL_act 166 = .ok (.iadd, 1) := by decide +kernel
theorem dL_act_167 : decode cL_act 167 = .ok (.iconst 2, 1) := by decide +kernel
theorem dL_act_168 : decode cL_act 168 = .ok (.iload_n 1, 1) := by decide +kernel
theorem dL_act_169 : decode cL_act 169 = .ok (.bipush 7, 2) := by decide +kernel
theorem dL_act_171 : decode cL_act 171 = .ok (.ishr, 1) := by decide +kernel
theorem dL_act_172 : decode cL_act 172 = .ok (.iconst 3, 1) := by decide +kernel
theorem dL_act_173 : decode cL_act 173 = .ok (.invokestatic 34, 3) := by decide +kernel
theorem dL_act_176 : decode cL_act 176 = .ok (.ishl, 1) := by decide +kernel
theorem dL_act_177 : decode cL_act 177 = .ok (.invokevirtual 49, 3) := by decide +kernel
theorem dL_act_180 : decode cL_act 180 = .ok (.pop, 1) := by decide +kernel
theorem dL_act_181 : decode cL_act 181 = .ok (.goto 188, 3) := by decide +kernel
theorem dL_act_184 : decode cL_act 184 = .ok (.aload_n 0, 1) := by decide +kernel
theorem dL_act_185 : decode cL_act 185 = .ok (.iload 4, 2) := by decide +kernel
theorem dL_act_187 : decode cL_act 187 = .ok (.iload_n 1, 1) := by decide +kernel
theorem dL_act_188 : decode cL_act 188 = .ok (.bipush 8, 2) := by decide +kernel
theorem dL_act_190 : decode cL_act 190 = .ok (.ishr, 1) := by decide +kernel
theorem dL_act_191 : decode cL_act 191 = .ok (.bipush 15, 2) := by decide +kernel
theorem dL_act_193 : decode cL_act 193 = .ok (.invokestatic 34, 3) := by decide +kernel
theorem dL_act_196 : decode cL_act 196 = .ok (.bipush 7, 2) := by decide +kernel
theorem dL_act_198 : decode cL_act 198 = .ok (.isub, 1) := by decide +kernel
theorem dL_act_199 : decode cL_act 199 = .ok (.invokevirtual 53, 3) := by decide +kernel
theorem dL_act_202 : decode cL_act 202 = .ok (.pop, 1) := by decide +kernel
theorem dL_act_203 : decode cL_act 203 = .ok (.goto 166, 3) := by decide +kernel
theorem dL_act_206 : decode cL_act 206 = .ok (.aload_n 0, 1) := by decide +kernel
theorem dL_act_207 : decode cL_act 207 = .ok (.iload_n 3, 1) := by decide +kernel
theorem dL_act_208 : decode cL_act 208 = .ok (.iload_n 1, 1) := by decide +kernel
theorem dL_act_209 : decode cL_act 209 = .ok (.bipush 7, 2) := by decide +kernel
theorem dL_act_211 : decode cL_act 211 = .ok (.ishr, 1) := by decide +kernel
theorem dL_act_212 : decode cL_act 212 = .ok (.bipush 13, 2) := by decide +kernel
theorem dL_act_214 : decode cL_act 214 = .ok (.invokestatic 34, 3) := by decide +kernel
theorem dL_act_217 : decode cL_act 217 = .ok (.bipush 6, 2) := by decide +kernel
theorem dL_act_219 : decode cL_act 219 = .ok (.isub, 1) := by decide +kernel
theorem dL_act_220 : decode cL_act 220 = .ok (.iload_n 1, 1) := by decide +kernel
theorem dL_act_221 : decode cL_act 221 = .ok (.bipush 9, 2) := by decide +kernel
theorem dL_act_223 : decode cL_act 223 = .ok (.ishr, 1) := by decide +kernel
theorem dL_act_224 : decode cL_act 224 = .ok (.iconst 5, 1) := by decide +kernel
theorem dL_act_225 : decode cL_act 225 = .ok (.invokestatic 34, 3) := by decide +kernel
theorem dL_act_228 : decode cL_act 228 = .ok (.iconst 2, 1) := by decide +kernel
theorem dL_act_229 : decode cL_act 229 = .ok (.isub, 1) := by decide +kernel
theorem dL_act_230 : decode cL_act 230 = .ok (.invokevirtual 56, 3) := by decide +kernel
theorem dL_act_233 : decode cL_act 233 = .ok (.pop, 1) := by decide +kernel
theorem dL_act_234 : decode cL_act 234 = .ok (.goto 135, 3) := by decide +kernel
theorem dL_act_237 : decode cL_act 237 = .ok (.aload_n 0, 1) := by decide +kernel
theorem dL_act_238 : decode cL_act 238 = .ok (.iload_n 3, 1) := by decide +kernel
theorem dL_act_239 : decode cL_act 239 = .ok (.iconst 1, 1) := by decide +kernel
theorem dL_act_240 : decode cL_act 240 = .ok (.iload_n 1, 1) := by decide +kernel
theorem dL_act_241 : decode cL_act 241 = .ok (.bipush 6, 2) := by decide +kernel
theorem dL_act_243 : decode cL_act 243 = .ok (.ishr, 1) := by decide +kernel
theorem dL_act_244 : decode cL_act 244 = .ok (.bipush 30, 2) := by decide +kernel
theorem dL_act_246 : decode cL_act 246 = .ok (.invokestatic 34, 3) := by decide +kernel
theorem dL_act_249 : decode cL_act 249 = .ok (.iadd, 1) := by decide +kernel
theorem dL_act_250 : decode cL_act 250 = .ok (.bipush 31, 2) := by decide +kernel
theorem dL_act_252 : decode cL_act 252 = .ok (.iload_n 1, 1) := by decide +kernel
theorem dL_act_253 : decode cL_act 253 = .ok (.bipush 9, 2) := by decide +kernel
theorem dL_act_255 : decode cL_act 255 = .ok (.ishr, 1) := by decide +kernel
theorem dL_act_256 : decode cL_act 256 = .ok (.bipush 32, 2) := by decide +kernel
theorem dL_act_258 : decode cL_act 258 = .ok (.invokestatic 34, 3) := by decide +kernel
theorem dL_act_261 : decode cL_act 261 = .ok (.iadd, 1) := by decide +kernel
theorem dL_act_262 : decode cL_act 262 = .ok (.invokevirtual 59, 3) := by decide +kernel
theorem dL_act_265 : decode cL_act 265 = .ok (.pop, 1) := by decide +kernel
theorem dL_act_266 : decode cL_act 266 = .ok (.goto 103, 3) := by decide +kernel
theorem dL_act_269 : decode cL_act 269 = .ok (.aload_n 0, 1) := by decide +kernel
theorem dL_act_270 : decode cL_act 270 = .ok (.iload_n 3, 1) := by decide +kernel
theorem dL_act_271 : decode cL_act 271 = .ok (.iload_n 1, 1) := by decide +kernel
theorem dL_act_272 : decode cL_act 272 = .ok (.bipush 6, 2) := by decide +kernel
theorem dL_act_274 : decode cL_act 274 = .ok (.ishr, 1) := by decide +kernel
theorem dL_act_275 : decode cL_act 275 = .ok (.iconst 1, 1) := by decide +kernel
theorem dL_act_276 : decode cL_act 276 = .ok (.aload_n 0, 1) := by decide +kernel
theorem dL_act_277 : decode cL_act 277 = .ok (.iload_n 3, 1) := by decide +kernel
theorem dL_act_278 : decode cL_act 278 = .ok (.invokevirtual 62, 3) := by decide +kernel
theorem dL_act_281 : decode cL_act 281 = .ok (.invokestatic 65, 3) := by decide +kernel
theorem dL_act_284 : decode cL_act 284 = .ok (.invokestatic 34, 3) := by decide +kernel
theorem dL_act_287 : decode cL_act 287 = .ok (.iconst 1, 1) := by decide +kernel
theorem dL_act_288 : decode cL_act 288 = .ok (.iload_n 1, 1) := by decide +kernel
theorem dL_act_289 : decode cL_act 289 = .ok (.bipush 9, 2) := by decide +kernel
theorem dL_act_291 : decode cL_act 291 = .ok (.ishr, 1) := by decide +kernel
theorem dL_act_292 : decode cL_act 292 = .ok (.bipush 62, 2) := by decide +kernel
theorem dL_act_294 : decode cL_act 294 = .ok (.invokestatic 34, 3) := by decide +kernel
theorem dL_act_297 : decode cL_act 297 = .ok (.iadd, 1) := by decide +kernel
theorem dL_act_298 : decode cL_act 298 = .ok (.iload_n 1, 1) := by decide +kernel
theorem dL_act_299 : decode cL_act 299 = .ok (.bipush 7, 2) := by decide +kernel
theorem dL_act_301 : decode cL_act 301 = .ok (.ishr, 1) := by decide +kernel
theorem dL_act_302 : decode cL_act 302 = .ok (.iconst 5, 1) := by decide +kernel
theorem dL_act_303 : decode cL_act 303 = .ok (.invokestatic 34, 3) := by decide +kernel
theorem dL_act_306 : decode cL_act 306 = .ok (.iconst 2, 1) := by decide +kernel
theorem dL_act_307 : decode cL_act 307 = .ok (.isub, 1) := by decide +kernel
theorem dL_act_308 : decode cL_act 308 = .ok (.invokevirtual 70, 3) := by decide +kernel
theorem dL_act_311 : decode cL_act 311 = .ok (.pop, 1) := by decide +kernel
theorem dL_act_312 : decode cL_act 312 = .ok (.goto 57, 3) := by decide +kernel
theorem dL_act_315 : decode cL_act 315 = .ok (.aload_n 0, 1) := by decide +kernel
theorem dL_act_316 : decode cL_act 316 = .ok (.iload_n 3, 1) := by decide +kernel
theorem dL_act_317 : decode cL_act 317 = .ok (.bipush 20, 2) := by decide +kernel
theorem dL_act_319 : decode cL_act 319 = .ok (.iload_n 1, 1) := by decide +kernel
theorem dL_act_320 : decode cL_act 320 = .ok (.bipush 6, 2) := by decide +kernel
theorem dL_act_322 : decode cL_act 322 = .ok (.ishr, 1) := by decide +kernel
theorem dL_act_323 : decode cL_act 323 = .ok (.bipush 20, 2) := by decide +kernel
theorem dL_act_325 : decode cL_act 325 = .ok (.invokestatic 34, 3) := by decide +kernel
theorem dL_act_328 : decode cL_act 328 = .ok (.iadd, 1) := by decide +kernel
theorem dL_act_329 : decode cL_act 329 = .ok (.iload_n 1, 1) := by decide +kernel
theorem dL_act_330 : decode cL_act 330 = .ok (.bipush 9, 2) := by decide +kernel
theorem dL_act_332 : decode cL_act 332 = .ok (.ishr, 1) := by decide +kernel
theorem dL_act_333 : decode cL_act 333 = .ok (.iconst 5, 1) := by decide +kernel
theorem dL_act_334 : decode cL_act 334 = .ok (.invokestatic 34, 3) := by decide +kernel
theorem dL_act_337 : decode cL_act 337 = .ok (.ifCond .ne 16, 3) := by decide +kernel
theorem dL_act_340 : decode cL_act 340 = .ok (.iload_n 1, 1) := by decide +kernel
theorem dL_act_341 : decode cL_act 341 = .ok (.bipush 11, 2) := by decide +kernel
theorem dL_act_343 : decode cL_act 343 = .ok (.ishr, 1) := by decide +kernel
theorem dL_act_344 : decode cL_act 344 = .ok (.iconst 5, 1) := by decide +kernel
theorem dL_act_345 : decode cL_act 345 = .ok (.invokestatic 34, 3) := by decide +kernel
theorem dL_act_348 : decode cL_act 348 = .ok (.iconst 2, 1) := by decide +kernel
theorem dL_act_349 : decode cL_act 349 = .ok (.isub, 1) := by decide +kernel
theorem dL_act_350 : decode cL_act 350 = .ok (.goto 4, 3) := by decide +kernel
theorem dL_act_353 : decode cL_act 353 = .ok (.iconst 0, 1) := by decide +kernel
theorem dL_act_354 : decode cL_act 354 = .ok (.aload_n 2, 1) := by decide +kernel
theorem dL_act_355 : decode cL_act 355 = .ok (.iload_n 1, 1) := by decide +kernel
theorem dL_act_356 : decode cL_act 356 = .ok (.bipush 8, 2) := by decide +kernel
theorem dL_act_358 : decode cL_act 358 = .ok (.ishr, 1) := by decide +kernel
theorem dL_act_359 : decode cL_act 359 = .ok (.bipush 10, 2) := by decide +kernel
theorem dL_act_361 : decode cL_act 361 = .ok (.invokestatic 34, 3) := by decide +kernel
theorem dL_act_364 : decode cL_act 364 = .ok (.iaload, 1) := by decide +kernel
theorem dL_act_365 : decode cL_act 365 = .ok (.invokevirtual 74, 3) := by decide +kernel
theorem dL_act_368 : decode cL_act 368 = .ok (.pop, 1) := by decide +kernel
theorem dL_act_369 : decode cL_act 369 = .ok (.goto 9, 3) := by decide +kernel
theorem dL_act_372 : decode cL_act 372 = .ok (.astore 5, 2) := by decide +kernel
theorem dL_act_374 : decode cL_act 374 = .ok (.return_, 1) := by decide +kernel
