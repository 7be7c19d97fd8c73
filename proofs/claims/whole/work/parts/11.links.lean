theorem wt {w : Cond} (i : Nat) (h : tables_1[i]? = some w) (g : goodWord w = true) : w ∈ WT := List.mem_filter.mpr ⟨List.mem_append_right _ (List.mem_of_getElem? h), g⟩
theorem wt_p {y : MethodName} {n : Nat} (i : Nat) (h : lw_privs[i]? = some (y, n)) : Cond.selects y.cls y y ∈ WT := List.mem_filter.mpr ⟨List.mem_append_left _ (List.mem_map.mpr ⟨(y, n), List.mem_of_getElem? h, rfl⟩), rfl⟩
theorem wt_l {ws : List Cond} (ps : List Nat) (h : ws = ps.filterMap (fun i => tables_1[i]?)) (g : ws.all goodWord = true) : ∀ w ∈ ws, w ∈ WT := by
  intro w hw
  have h1 := List.all_eq_true.mp g w hw
  rw [h] at hw
  obtain ⟨i, -, hi⟩ := List.mem_filterMap.mp hw
  exact wt i hi h1
theorem wt_init {C : String} (i : Nat) (h : tables_1[i]? = some (Cond.initialized C)) : Cond.initialized C ∈ WT := wt i h rfl
/-- what a call wants of the callee -/
def jCe (y : MethodName) (M' : jM) (n : Nat) : Prop := Cond.initialized y.cls ∈ WT ∧ Cond.code y M'.cc M'.nL M'.ret ∈ WT ∧ (y.cls ≠ "java/lang/invoke/MethodHandle" ∧ y.cls ≠ "java/lang/invoke/VarHandle") ∧ (parseMethodDescriptor y.desc).map (fun d => d.parameters.length) = some n
theorem jLk.mk {own : String} {idx n : Nat} {y : MethodName} {M' : jM} (h1 : Cond.methodLink own idx y ∈ WT) (h : jCe y M' n) : jLk own idx y M' n := ⟨h1, h⟩
theorem inX0 : ∀ w ∈ u_ws RX0 TX0 5, w ∈ WT := wt_l [101, 103, 105, 107, 109] (by decide +kernel) (by decide +kernel)
theorem inX1 : ∀ w ∈ u_ws RX1 TX1 3, w ∈ WT := wt_l [181, 183, 185] (by decide +kernel) (by decide +kernel)
theorem inX2 : ∀ w ∈ u_ws RX2 TX2 8, w ∈ WT := wt_l [202, 204, 206, 208, 210, 212, 214, 216] (by decide +kernel) (by decide +kernel)
theorem inX3 : ∀ w ∈ u_ws RX3 TX3 4, w ∈ WT := wt_l [163, 165, 167, 169] (by decide +kernel) (by decide +kernel)
theorem inX4 : ∀ w ∈ u_ws RX4 TX4 5, w ∈ WT := wt_l [230, 232, 234, 236, 238] (by decide +kernel) (by decide +kernel)
theorem inX5 : ∀ w ∈ u_ws RX5 TX5 11, w ∈ WT := wt_l [129, 131, 133, 135, 137, 139, 141, 143, 145, 147, 149] (by decide +kernel) (by decide +kernel)
theorem inX6 : ∀ w ∈ u_ws RX6 TX6 13, w ∈ WT := wt_l [51, 53, 55, 57, 59, 61, 63, 65, 67, 69, 71, 73, 75] (by decide +kernel) (by decide +kernel)
theorem inX9 : ∀ w ∈ u_ws RX9 TX9 12, w ∈ WT := wt_l [253, 255, 257, 259, 261, 263, 265, 267, 269, 271, 273, 275] (by decide +kernel) (by decide +kernel)
theorem inX10 : ∀ w ∈ u_ws RX10 TX10 9, w ∈ WT := wt_l [1275, 1277, 1279, 1281, 1283, 1285, 1287, 1289, 1291] (by decide +kernel) (by decide +kernel)
theorem inX11 : ∀ w ∈ u_ws RX11 TX11 31, w ∈ WT := wt_l [1326, 1328, 1330, 1332, 1334, 1336, 1338, 1340, 1342, 1344, 1346, 1348, 1350, 1352, 1354, 1356, 1358, 1360, 1362, 1364, 1366, 1368, 1370, 1372, 1374, 1376, 1378, 1380, 1382, 1384, 1386] (by decide +kernel) (by decide +kernel)
theorem tyX0_beats : jTy 0 0 (.array .int) true := ⟨RX0, TX0, 5, tyX0, rfl, tyX0_ok, nmX0, by decide +kernel, rfl, rfl⟩
theorem tyX0_units : jTy 0 1 (.array .int) true := ⟨RX0, TX0, 5, tyX0, rfl, tyX0_ok, nmX0, by decide +kernel, rfl, rfl⟩
theorem tyX0_lengths : jTy 0 2 (.array .int) true := ⟨RX0, TX0, 5, tyX0, rfl, tyX0_ok, nmX0, by decide +kernel, rfl, rfl⟩
theorem tyX0_keys : jTy 0 3 (.array .int) true := ⟨RX0, TX0, 5, tyX0, rfl, tyX0_ok, nmX0, by decide +kernel, rfl, rfl⟩
theorem tyX0_end : jTy 0 4 .int false := ⟨RX0, TX0, 5, tyX0, rfl, tyX0_ok, nmX0, by decide +kernel, rfl, rfl⟩
theorem tyX1_root : jTy 1 0 .int false := ⟨RX1, TX1, 3, tyX1, rfl, tyX1_ok, nmX1, by decide +kernel, rfl, rfl⟩
theorem tyX1_kind : jTy 1 1 .int false := ⟨RX1, TX1, 3, tyX1, rfl, tyX1_ok, nmX1, by decide +kernel, rfl, rfl⟩
theorem tyX1_lowest : jTy 1 2 .int false := ⟨RX1, TX1, 3, tyX1, rfl, tyX1_ok, nmX1, by decide +kernel, rfl, rfl⟩
theorem tyX2_kinds : jTy 2 0 (.array .int) true := ⟨RX2, TX2, 8, tyX2, rfl, tyX2_ok, nmX2, by decide +kernel, rfl, rfl⟩
theorem tyX2_ticks : jTy 2 1 (.array .int) true := ⟨RX2, TX2, 8, tyX2, rfl, tyX2_ok, nmX2, by decide +kernel, rfl, rfl⟩
theorem tyX2_partCodes : jTy 2 2 (.array .int) true := ⟨RX2, TX2, 8, tyX2, rfl, tyX2_ok, nmX2, by decide +kernel, rfl, rfl⟩
theorem tyX2_heightsAhead : jTy 2 3 (.array .int) true := ⟨RX2, TX2, 8, tyX2, rfl, tyX2_ok, nmX2, by decide +kernel, rfl, rfl⟩
theorem tyX2_heightsNow : jTy 2 4 (.array .int) true := ⟨RX2, TX2, 8, tyX2, rfl, tyX2_ok, nmX2, by decide +kernel, rfl, rfl⟩
theorem tyX2_begins : jTy 2 5 (.array .boolean) true := ⟨RX2, TX2, 8, tyX2, rfl, tyX2_ok, nmX2, by decide +kernel, rfl, rfl⟩
theorem tyX2_ways : jTy 2 6 (.array .int) true := ⟨RX2, TX2, 8, tyX2, rfl, tyX2_ok, nmX2, by decide +kernel, rfl, rfl⟩
theorem tyX2_count : jTy 2 7 .int false := ⟨RX2, TX2, 8, tyX2, rfl, tyX2_ok, nmX2, by decide +kernel, rfl, rfl⟩
theorem tyX3_ticks : jTy 3 0 (.array .int) true := ⟨RX3, TX3, 4, tyX3, rfl, tyX3_ok, nmX3, by decide +kernel, rfl, rfl⟩
theorem tyX3_eventsThen : jTy 3 1 (.array .int) true := ⟨RX3, TX3, 4, tyX3, rfl, tyX3_ok, nmX3, by decide +kernel, rfl, rfl⟩
theorem tyX3_begun : jTy 3 2 (.array .int) true := ⟨RX3, TX3, 4, tyX3, rfl, tyX3_ok, nmX3, by decide +kernel, rfl, rfl⟩
theorem tyX3_count : jTy 3 3 .int false := ⟨RX3, TX3, 4, tyX3, rfl, tyX3_ok, nmX3, by decide +kernel, rfl, rfl⟩
theorem tyX4_widths : jTy 4 0 (.array .int) true := ⟨RX4, TX4, 5, tyX4, rfl, tyX4_ok, nmX4, by decide +kernel, rfl, rfl⟩
theorem tyX4_costs : jTy 4 1 (.array .int) true := ⟨RX4, TX4, 5, tyX4, rfl, tyX4_ok, nmX4, by decide +kernel, rfl, rfl⟩
theorem tyX4_nextLines : jTy 4 2 (.array .int) true := ⟨RX4, TX4, 5, tyX4, rfl, tyX4_ok, nmX4, by decide +kernel, rfl, rfl⟩
theorem tyX4_lineNumbers : jTy 4 3 (.array .int) true := ⟨RX4, TX4, 5, tyX4, rfl, tyX4_ok, nmX4, by decide +kernel, rfl, rfl⟩
theorem tyX4_lineCount : jTy 4 4 .int false := ⟨RX4, TX4, 5, tyX4, rfl, tyX4_ok, nmX4, by decide +kernel, rfl, rfl⟩
theorem tyX5_signEvents : jTy 5 0 (.array .int) true := ⟨RX5, TX5, 11, tyX5, rfl, tyX5_ok, nmX5, by decide +kernel, rfl, rfl⟩
theorem tyX5_ticks : jTy 5 1 (.array .int) true := ⟨RX5, TX5, 11, tyX5, rfl, tyX5_ok, nmX5, by decide +kernel, rfl, rfl⟩
theorem tyX5_lengths : jTy 5 2 (.array .int) true := ⟨RX5, TX5, 11, tyX5, rfl, tyX5_ok, nmX5, by decide +kernel, rfl, rfl⟩
theorem tyX5_firstOfNote : jTy 5 3 (.array .boolean) true := ⟨RX5, TX5, 11, tyX5, rfl, tyX5_ok, nmX5, by decide +kernel, rfl, rfl⟩
theorem tyX5_tied : jTy 5 4 (.array .boolean) true := ⟨RX5, TX5, 11, tyX5, rfl, tyX5_ok, nmX5, by decide +kernel, rfl, rfl⟩
theorem tyX5_shownAlters : jTy 5 5 (.array .int) true := ⟨RX5, TX5, 11, tyX5, rfl, tyX5_ok, nmX5, by decide +kernel, rfl, rfl⟩
theorem tyX5_shownAltersAsWritten : jTy 5 6 (.array .int) true := ⟨RX5, TX5, 11, tyX5, rfl, tyX5_ok, nmX5, by decide +kernel, rfl, rfl⟩
theorem tyX5_beamNumbers : jTy 5 7 (.array .int) true := ⟨RX5, TX5, 11, tyX5, rfl, tyX5_ok, nmX5, by decide +kernel, rfl, rfl⟩
theorem tyX5_altersInForce : jTy 5 8 (.array .int) true := ⟨RX5, TX5, 11, tyX5, rfl, tyX5_ok, nmX5, by decide +kernel, rfl, rfl⟩
theorem tyX5_count : jTy 5 9 .int false := ⟨RX5, TX5, 11, tyX5, rfl, tyX5_ok, nmX5, by decide +kernel, rfl, rfl⟩
theorem tyX5_beamCount : jTy 5 10 .int false := ⟨RX5, TX5, 11, tyX5, rfl, tyX5_ok, nmX5, by decide +kernel, rfl, rfl⟩
theorem tyX6_places : jTy 6 0 (.array .int) true := ⟨RX6, TX6, 13, tyX6, rfl, tyX6_ok, nmX6, by decide +kernel, rfl, rfl⟩
theorem tyX6_alters : jTy 6 1 (.array .int) true := ⟨RX6, TX6, 13, tyX6, rfl, tyX6_ok, nmX6, by decide +kernel, rfl, rfl⟩
theorem tyX6_heights : jTy 6 2 (.array .int) true := ⟨RX6, TX6, 13, tyX6, rfl, tyX6_ok, nmX6, by decide +kernel, rfl, rfl⟩
theorem tyX6_begins : jTy 6 3 (.array .int) true := ⟨RX6, TX6, 13, tyX6, rfl, tyX6_ok, nmX6, by decide +kernel, rfl, rfl⟩
theorem tyX6_lengths : jTy 6 4 (.array .int) true := ⟨RX6, TX6, 13, tyX6, rfl, tyX6_ok, nmX6, by decide +kernel, rfl, rfl⟩
theorem tyX6_writtenPlaces : jTy 6 5 (.array .int) true := ⟨RX6, TX6, 13, tyX6, rfl, tyX6_ok, nmX6, by decide +kernel, rfl, rfl⟩
theorem tyX6_writtenAlters : jTy 6 6 (.array .int) true := ⟨RX6, TX6, 13, tyX6, rfl, tyX6_ok, nmX6, by decide +kernel, rfl, rfl⟩
theorem tyX6_count : jTy 6 7 .int false := ⟨RX6, TX6, 13, tyX6, rfl, tyX6_ok, nmX6, by decide +kernel, rfl, rfl⟩
theorem tyX6_end : jTy 6 8 .int false := ⟨RX6, TX6, 13, tyX6, rfl, tyX6_ok, nmX6, by decide +kernel, rfl, rfl⟩
theorem tyX6_lowest : jTy 6 9 .int false := ⟨RX6, TX6, 13, tyX6, rfl, tyX6_ok, nmX6, by decide +kernel, rfl, rfl⟩
theorem tyX6_highest : jTy 6 10 .int false := ⟨RX6, TX6, 13, tyX6, rfl, tyX6_ok, nmX6, by decide +kernel, rfl, rfl⟩
theorem tyX6_fifths : jTy 6 11 .int false := ⟨RX6, TX6, 13, tyX6, rfl, tyX6_ok, nmX6, by decide +kernel, rfl, rfl⟩
theorem tyX6_octaves : jTy 6 12 .int false := ⟨RX6, TX6, 13, tyX6, rfl, tyX6_ok, nmX6, by decide +kernel, rfl, rfl⟩
theorem tyX9_parts : jTy 7 0 (.array (.object "ChoraleDesk$Part")) true := ⟨RX9, TX9, 12, tyX9, rfl, tyX9_ok, nmX9, by decide +kernel, rfl, rfl⟩
theorem tyX9_calendar : jTy 7 1 (.object "ChoraleDesk$Calendar") true := ⟨RX9, TX9, 12, tyX9, rfl, tyX9_ok, nmX9, by decide +kernel, rfl, rfl⟩
theorem tyX9_measure : jTy 7 2 (.object "ChoraleDesk$Measure") true := ⟨RX9, TX9, 12, tyX9, rfl, tyX9_ok, nmX9, by decide +kernel, rfl, rfl⟩
theorem tyX9_harmony : jTy 7 3 (.object "ChoraleDesk$Harmony") true := ⟨RX9, TX9, 12, tyX9, rfl, tyX9_ok, nmX9, by decide +kernel, rfl, rfl⟩
theorem tyX9_chord : jTy 7 4 (.object "ChoraleDesk$Chord") true := ⟨RX9, TX9, 12, tyX9, rfl, tyX9_ok, nmX9, by decide +kernel, rfl, rfl⟩
theorem tyX9_faultList : jTy 7 5 (.object "ChoraleDesk$FaultList") true := ⟨RX9, TX9, 12, tyX9, rfl, tyX9_ok, nmX9, by decide +kernel, rfl, rfl⟩
theorem tyX9_breaks : jTy 7 6 (.object "ChoraleDesk$LineBreaks") true := ⟨RX9, TX9, 12, tyX9, rfl, tyX9_ok, nmX9, by decide +kernel, rfl, rfl⟩
theorem tyX9_heard : jTy 7 7 .boolean false := ⟨RX9, TX9, 12, tyX9, rfl, tyX9_ok, nmX9, by decide +kernel, rfl, rfl⟩
theorem tyX9_searched : jTy 7 8 .boolean false := ⟨RX9, TX9, 12, tyX9, rfl, tyX9_ok, nmX9, by decide +kernel, rfl, rfl⟩
theorem tyX9_widthsKnown : jTy 7 9 .boolean false := ⟨RX9, TX9, 12, tyX9, rfl, tyX9_ok, nmX9, by decide +kernel, rfl, rfl⟩
theorem tyX9_laidPart : jTy 7 10 .int false := ⟨RX9, TX9, 12, tyX9, rfl, tyX9_ok, nmX9, by decide +kernel, rfl, rfl⟩
theorem tyX9_laidBar : jTy 7 11 .int false := ⟨RX9, TX9, 12, tyX9, rfl, tyX9_ok, nmX9, by decide +kernel, rfl, rfl⟩
theorem tyX10_many : jTy 8 0 .int false := ⟨RX10, TX10, 9, tyX10, rfl, tyX10_ok, nmX10, by decide +kernel, rfl, rfl⟩
theorem tyX10_begin : jTy 8 1 (.array .int) false := ⟨RX10, TX10, 9, tyX10, rfl, tyX10_ok, nmX10, by decide +kernel, rfl, rfl⟩
theorem tyX10_length : jTy 8 2 (.array .int) false := ⟨RX10, TX10, 9, tyX10, rfl, tyX10_ok, nmX10, by decide +kernel, rfl, rfl⟩
theorem tyX10_place : jTy 8 3 (.array .int) false := ⟨RX10, TX10, 9, tyX10, rfl, tyX10_ok, nmX10, by decide +kernel, rfl, rfl⟩
theorem tyX10_alter : jTy 8 4 (.array .int) false := ⟨RX10, TX10, 9, tyX10, rfl, tyX10_ok, nmX10, by decide +kernel, rfl, rfl⟩
theorem tyX10_lowest : jTy 8 5 .int false := ⟨RX10, TX10, 9, tyX10, rfl, tyX10_ok, nmX10, by decide +kernel, rfl, rfl⟩
theorem tyX10_highest : jTy 8 6 .int false := ⟨RX10, TX10, 9, tyX10, rfl, tyX10_ok, nmX10, by decide +kernel, rfl, rfl⟩
theorem tyX10_fifths : jTy 8 7 .int false := ⟨RX10, TX10, 9, tyX10, rfl, tyX10_ok, nmX10, by decide +kernel, rfl, rfl⟩
theorem tyX10_octaves : jTy 8 8 .int false := ⟨RX10, TX10, 9, tyX10, rfl, tyX10_ok, nmX10, by decide +kernel, rfl, rfl⟩
theorem tyX11_thrown : jTy 9 0 .int false := ⟨RX11, TX11, 31, tyX11, rfl, tyX11_ok, nmX11, by decide +kernel, rfl, rfl⟩
theorem tyX11_parts : jTy 9 1 (.array (.object "ChoraleDeskModel$Part")) true := ⟨RX11, TX11, 31, tyX11, rfl, tyX11_ok, nmX11, by decide +kernel, rfl, rfl⟩
theorem tyX11_beats : jTy 9 2 (.array .int) true := ⟨RX11, TX11, 31, tyX11, rfl, tyX11_ok, nmX11, by decide +kernel, rfl, rfl⟩
theorem tyX11_unit : jTy 9 3 (.array .int) true := ⟨RX11, TX11, 31, tyX11, rfl, tyX11_ok, nmX11, by decide +kernel, rfl, rfl⟩
theorem tyX11_key : jTy 9 4 (.array .int) true := ⟨RX11, TX11, 31, tyX11, rfl, tyX11_ok, nmX11, by decide +kernel, rfl, rfl⟩
theorem tyX11_laid : jTy 9 5 .int false := ⟨RX11, TX11, 31, tyX11, rfl, tyX11_ok, nmX11, by decide +kernel, rfl, rfl⟩
theorem tyX11_laidBeams : jTy 9 6 .int false := ⟨RX11, TX11, 31, tyX11, rfl, tyX11_ok, nmX11, by decide +kernel, rfl, rfl⟩
theorem tyX11_signEvent : jTy 9 7 (.array .int) true := ⟨RX11, TX11, 31, tyX11, rfl, tyX11_ok, nmX11, by decide +kernel, rfl, rfl⟩
theorem tyX11_signLength : jTy 9 8 (.array .int) true := ⟨RX11, TX11, 31, tyX11, rfl, tyX11_ok, nmX11, by decide +kernel, rfl, rfl⟩
theorem tyX11_signTick : jTy 9 9 (.array .int) true := ⟨RX11, TX11, 31, tyX11, rfl, tyX11_ok, nmX11, by decide +kernel, rfl, rfl⟩
theorem tyX11_signTied : jTy 9 10 (.array .boolean) true := ⟨RX11, TX11, 31, tyX11, rfl, tyX11_ok, nmX11, by decide +kernel, rfl, rfl⟩
theorem tyX11_signShown : jTy 9 11 (.array .int) true := ⟨RX11, TX11, 31, tyX11, rfl, tyX11_ok, nmX11, by decide +kernel, rfl, rfl⟩
theorem tyX11_signWritten : jTy 9 12 (.array .int) true := ⟨RX11, TX11, 31, tyX11, rfl, tyX11_ok, nmX11, by decide +kernel, rfl, rfl⟩
theorem tyX11_signBeam : jTy 9 13 (.array .int) true := ⟨RX11, TX11, 31, tyX11, rfl, tyX11_ok, nmX11, by decide +kernel, rfl, rfl⟩
theorem tyX11_force : jTy 9 14 (.array .int) true := ⟨RX11, TX11, 31, tyX11, rfl, tyX11_ok, nmX11, by decide +kernel, rfl, rfl⟩
theorem tyX11_tick : jTy 9 15 .int false := ⟨RX11, TX11, 31, tyX11, rfl, tyX11_ok, nmX11, by decide +kernel, rfl, rfl⟩
theorem tyX11_here : jTy 9 16 (.array .int) true := ⟨RX11, TX11, 31, tyX11, rfl, tyX11_ok, nmX11, by decide +kernel, rfl, rfl⟩
theorem tyX11_next : jTy 9 17 (.array .int) true := ⟨RX11, TX11, 31, tyX11, rfl, tyX11_ok, nmX11, by decide +kernel, rfl, rfl⟩
theorem tyX11_ahead : jTy 9 18 (.array .int) true := ⟨RX11, TX11, 31, tyX11, rfl, tyX11_ok, nmX11, by decide +kernel, rfl, rfl⟩
theorem tyX11_chordRoot : jTy 9 19 .int false := ⟨RX11, TX11, 31, tyX11, rfl, tyX11_ok, nmX11, by decide +kernel, rfl, rfl⟩
theorem tyX11_chordKind : jTy 9 20 .int false := ⟨RX11, TX11, 31, tyX11, rfl, tyX11_ok, nmX11, by decide +kernel, rfl, rfl⟩
theorem tyX11_chordInversion : jTy 9 21 .int false := ⟨RX11, TX11, 31, tyX11, rfl, tyX11_ok, nmX11, by decide +kernel, rfl, rfl⟩
theorem tyX11_wanted : jTy 9 22 .int false := ⟨RX11, TX11, 31, tyX11, rfl, tyX11_ok, nmX11, by decide +kernel, rfl, rfl⟩
theorem tyX11_counted : jTy 9 23 .int false := ⟨RX11, TX11, 31, tyX11, rfl, tyX11_ok, nmX11, by decide +kernel, rfl, rfl⟩
theorem tyX11_foundKind : jTy 9 24 .int false := ⟨RX11, TX11, 31, tyX11, rfl, tyX11_ok, nmX11, by decide +kernel, rfl, rfl⟩
theorem tyX11_foundTick : jTy 9 25 .int false := ⟨RX11, TX11, 31, tyX11, rfl, tyX11_ok, nmX11, by decide +kernel, rfl, rfl⟩
theorem tyX11_foundParts : jTy 9 26 .int false := ⟨RX11, TX11, 31, tyX11, rfl, tyX11_ok, nmX11, by decide +kernel, rfl, rfl⟩
theorem tyX11_widths : jTy 9 27 (.array .int) true := ⟨RX11, TX11, 31, tyX11, rfl, tyX11_ok, nmX11, by decide +kernel, rfl, rfl⟩
theorem tyX11_best : jTy 9 28 (.array .int) true := ⟨RX11, TX11, 31, tyX11, rfl, tyX11_ok, nmX11, by decide +kernel, rfl, rfl⟩
theorem tyX11_end : jTy 9 29 (.array .int) true := ⟨RX11, TX11, 31, tyX11, rfl, tyX11_ok, nmX11, by decide +kernel, rfl, rfl⟩
theorem tyX11_sum : jTy 9 30 .long false := ⟨RX11, TX11, 31, tyX11, rfl, tyX11_ok, nmX11, by decide +kernel, rfl, rfl⟩
abbrev mX0_init : jM := (RX0, cX0_init, 1, none, [], "<init>", { frames := 2, cells := 4, slots := 96, locals := 47 })
abbrev mX0_isBar : jM := (RX0, cX0_isBar, 1, some .boolean, [], "isBar", { frames := 0, cells := 0, slots := 0, locals := 0 })
abbrev mX0_changeMetre : jM := (RX0, cX0_changeMetre, 5, none, [], "changeMetre", { frames := 1, cells := 0, slots := 0, locals := 23 })
abbrev mX0_changeKey : jM := (RX0, cX0_changeKey, 4, none, [], "changeKey", { frames := 1, cells := 0, slots := 0, locals := 20 })
abbrev mX0_keyAt : jM := (RX0, cX0_keyAt, 2, some .int, [], "keyAt", { frames := 1, cells := 0, slots := 0, locals := 20 })
abbrev mX0_lengthAt : jM := (RX0, cX0_lengthAt, 2, some .int, [], "lengthAt", { frames := 1, cells := 0, slots := 0, locals := 20 })
abbrev mX0_beginAt : jM := (RX0, cX0_beginAt, 4, some .int, [], "beginAt", { frames := 0, cells := 0, slots := 0, locals := 0 })
abbrev mX0_end : jM := (RX0, cX0_end, 1, some .int, [], "end", { frames := 0, cells := 0, slots := 0, locals := 0 })
abbrev mX0_barAt : jM := (RX0, cX0_barAt, 4, some .int, [], "barAt", { frames := 0, cells := 0, slots := 0, locals := 0 })
abbrev mX0_barsUpTo : jM := (RX0, cX0_barsUpTo, 2, some .int, [], "barsUpTo", { frames := 1, cells := 0, slots := 0, locals := 23 })
abbrev mX0_ticksBehind : jM := (RX0, cX0_ticksBehind, 4, some .int, [], "ticksBehind", { frames := 2, cells := 0, slots := 0, locals := 41 })
abbrev mX0_groupLengthAt : jM := (RX0, cX0_groupLengthAt, 2, some .int, [], "groupLengthAt", { frames := 1, cells := 0, slots := 0, locals := 20 })
abbrev mX1_init : jM := (RX1, cX1_init, 1, none, [], "<init>", { frames := 1, cells := 0, slots := 0, locals := 20 })
abbrev mX1_rootClass : jM := (RX1, cX1_rootClass, 1, some .int, [], "rootClass", { frames := 0, cells := 0, slots := 0, locals := 0 })
abbrev mX1_kindNumber : jM := (RX1, cX1_kindNumber, 1, some .int, [], "kindNumber", { frames := 0, cells := 0, slots := 0, locals := 0 })
abbrev mX1_lowestTone : jM := (RX1, cX1_lowestTone, 1, some .int, [], "lowestTone", { frames := 0, cells := 0, slots := 0, locals := 0 })
abbrev mX1_tell : jM := (RX1, cX1_tell, 8, none, [], "tell", { frames := 2, cells := 0, slots := 0, locals := 50 })
abbrev mX1_forget : jM := (RX1, cX1_forget, 1, none, [], "forget", { frames := 0, cells := 0, slots := 0, locals := 0 })
abbrev mX1_findRoot : jM := (RX1, cX1_findRoot, 4, none, [], "findRoot", { frames := 1, cells := 0, slots := 0, locals := 27 })
abbrev mX1_findKind : jM := (RX1, cX1_findKind, 8, none, [], "findKind", { frames := 0, cells := 0, slots := 0, locals := 0 })
abbrev mX2_init : jM := (RX2, cX2_init, 1, none, [], "<init>", { frames := 1, cells := 7, slots := 7696, locals := 20 })
abbrev mX2_size : jM := (RX2, cX2_size, 1, some .int, [], "size", { frames := 0, cells := 0, slots := 0, locals := 0 })
abbrev mX2_has : jM := (RX2, cX2_has, 2, some .boolean, [], "has", { frames := 0, cells := 0, slots := 0, locals := 0 })
abbrev mX2_kindAt : jM := (RX2, cX2_kindAt, 2, some .int, [], "kindAt", { frames := 1, cells := 0, slots := 0, locals := 21 })
abbrev mX2_tickAt : jM := (RX2, cX2_tickAt, 2, some .int, [], "tickAt", { frames := 1, cells := 0, slots := 0, locals := 21 })
abbrev mX2_partsAt : jM := (RX2, cX2_partsAt, 2, some .int, [], "partsAt", { frames := 1, cells := 0, slots := 0, locals := 21 })
abbrev mX2_search : jM := (RX2, cX2_search, 6, none, [], "search", { frames := 3, cells := 0, slots := 0, locals := 68 })
abbrev mX2_add : jM := (RX2, cX2_add, 4, none, [], "add", { frames := 0, cells := 0, slots := 0, locals := 0 })
abbrev mX2_goOn : jM := (RX2, cX2_goOn, 6, none, [], "goOn", { frames := 2, cells := 0, slots := 0, locals := 43 })
abbrev mX2_searchParallels : jM := (RX2, cX2_searchParallels, 6, none, [], "searchParallels", { frames := 1, cells := 0, slots := 0, locals := 23 })
abbrev mX2_searchCrossings : jM := (RX2, cX2_searchCrossings, 5, none, [], "searchCrossings", { frames := 1, cells := 0, slots := 0, locals := 23 })
abbrev mX2_searchNote : jM := (RX2, cX2_searchNote, 5, none, [], "searchNote", { frames := 2, cells := 0, slots := 0, locals := 42 })
abbrev mX3_init : jM := (RX3, cX3_init, 1, none, [], "<init>", { frames := 1, cells := 3, slots := 2564, locals := 20 })
abbrev mX3_size : jM := (RX3, cX3_size, 1, some .int, [], "size", { frames := 0, cells := 0, slots := 0, locals := 0 })
abbrev mX3_has : jM := (RX3, cX3_has, 2, some .boolean, [], "has", { frames := 0, cells := 0, slots := 0, locals := 0 })
abbrev mX3_tickAt : jM := (RX3, cX3_tickAt, 2, some .int, [], "tickAt", { frames := 1, cells := 0, slots := 0, locals := 21 })
abbrev mX3_eventAt : jM := (RX3, cX3_eventAt, 3, some .int, [], "eventAt", { frames := 1, cells := 0, slots := 0, locals := 21 })
abbrev mX3_listen : jM := (RX3, cX3_listen, 5, none, [], "listen", { frames := 3, cells := 0, slots := 0, locals := 67 })
abbrev mX3_nextBegin : jM := (RX3, cX3_nextBegin, 6, some .int, [], "nextBegin", { frames := 2, cells := 0, slots := 0, locals := 42 })
abbrev mX3_eventGoingOn : jM := (RX3, cX3_eventGoingOn, 5, some .int, [], "eventGoingOn", { frames := 2, cells := 0, slots := 0, locals := 42 })
abbrev mX4_init : jM := (RX4, cX4_init, 1, none, [], "<init>", { frames := 1, cells := 4, slots := 97, locals := 20 })
abbrev mX4_size : jM := (RX4, cX4_size, 1, some .int, [], "size", { frames := 0, cells := 0, slots := 0, locals := 0 })
abbrev mX4_leastCost : jM := (RX4, cX4_leastCost, 1, some .int, [], "leastCost", { frames := 0, cells := 0, slots := 0, locals := 0 })
abbrev mX4_widthAt : jM := (RX4, cX4_widthAt, 2, some .int, [], "widthAt", { frames := 0, cells := 0, slots := 0, locals := 0 })
abbrev mX4_lineAt : jM := (RX4, cX4_lineAt, 2, some .int, [], "lineAt", { frames := 0, cells := 0, slots := 0, locals := 0 })
abbrev mX4_measureWidths : jM := (RX4, cX4_measureWidths, 9, none, [], "measureWidths", { frames := 2, cells := 0, slots := 0, locals := 42 })
abbrev mX4_widthOfGap : jM := (RX4, cX4_widthOfGap, 3, some .int, [], "widthOfGap", { frames := 0, cells := 0, slots := 0, locals := 0 })
abbrev mX4_breakUp : jM := (RX4, cX4_breakUp, 5, none, [], "breakUp", { frames := 1, cells := 0, slots := 0, locals := 28 })
abbrev mX4_chooseLine : jM := (RX4, cX4_chooseLine, 9, none, [], "chooseLine", { frames := 0, cells := 0, slots := 0, locals := 0 })
abbrev mX4_numberLines : jM := (RX4, cX4_numberLines, 4, none, [], "numberLines", { frames := 0, cells := 0, slots := 0, locals := 0 })
abbrev mX5_init : jM := (RX5, cX5_init, 1, none, [], "<init>", { frames := 1, cells := 9, slots := 1087, locals := 20 })
abbrev mX5_size : jM := (RX5, cX5_size, 1, some .int, [], "size", { frames := 0, cells := 0, slots := 0, locals := 0 })
abbrev mX5_beamTotal : jM := (RX5, cX5_beamTotal, 1, some .int, [], "beamTotal", { frames := 0, cells := 0, slots := 0, locals := 0 })
abbrev mX5_has : jM := (RX5, cX5_has, 2, some .boolean, [], "has", { frames := 0, cells := 0, slots := 0, locals := 0 })
abbrev mX5_eventAt : jM := (RX5, cX5_eventAt, 2, some .int, [], "eventAt", { frames := 1, cells := 0, slots := 0, locals := 21 })
abbrev mX5_lengthAt : jM := (RX5, cX5_lengthAt, 2, some .int, [], "lengthAt", { frames := 1, cells := 0, slots := 0, locals := 21 })
abbrev mX5_tiedAt : jM := (RX5, cX5_tiedAt, 2, some .boolean, [], "tiedAt", { frames := 1, cells := 0, slots := 0, locals := 21 })
abbrev mX5_shownAt : jM := (RX5, cX5_shownAt, 2, some .int, [], "shownAt", { frames := 1, cells := 0, slots := 0, locals := 21 })
abbrev mX5_shownAsWrittenAt : jM := (RX5, cX5_shownAsWrittenAt, 2, some .int, [], "shownAsWrittenAt", { frames := 1, cells := 0, slots := 0, locals := 21 })
abbrev mX5_beamAt : jM := (RX5, cX5_beamAt, 2, some .int, [], "beamAt", { frames := 1, cells := 0, slots := 0, locals := 21 })
abbrev mX5_write : jM := (RX5, cX5_write, 8, none, [], "write", { frames := 3, cells := 0, slots := 0, locals := 70 })
abbrev mX5_writeStretch : jM := (RX5, cX5_writeStretch, 7, none, [], "writeStretch", { frames := 1, cells := 0, slots := 0, locals := 23 })
abbrev mX5_addSign : jM := (RX5, cX5_addSign, 4, none, [], "addSign", { frames := 0, cells := 0, slots := 0, locals := 0 })
abbrev mX5_markSigns : jM := (RX5, cX5_markSigns, 6, none, [], "markSigns", { frames := 2, cells := 0, slots := 0, locals := 42 })
abbrev mX5_beamSigns : jM := (RX5, cX5_beamSigns, 7, none, [], "beamSigns", { frames := 2, cells := 0, slots := 0, locals := 42 })
abbrev mX5_joinToSignAhead : jM := (RX5, cX5_joinToSignAhead, 2, none, [], "joinToSignAhead", { frames := 1, cells := 0, slots := 0, locals := 21 })
abbrev mX5_showAlters : jM := (RX5, cX5_showAlters, 5, none, [], "showAlters", { frames := 2, cells := 0, slots := 0, locals := 46 })
abbrev mX5_showAltersAsWritten : jM := (RX5, cX5_showAltersAsWritten, 5, none, [], "showAltersAsWritten", { frames := 2, cells := 0, slots := 0, locals := 46 })
abbrev mX5_alterToShow : jM := (RX5, cX5_alterToShow, 5, some .int, [], "alterToShow", { frames := 1, cells := 0, slots := 0, locals := 22 })
abbrev mX6_init : jM := (RX6, cX6_init, 1, none, [], "<init>", { frames := 1, cells := 7, slots := 3584, locals := 20 })
abbrev mX6_size : jM := (RX6, cX6_size, 1, some .int, [], "size", { frames := 0, cells := 0, slots := 0, locals := 0 })
abbrev mX6_end : jM := (RX6, cX6_end, 1, some .int, [], "end", { frames := 0, cells := 0, slots := 0, locals := 0 })
abbrev mX6_has : jM := (RX6, cX6_has, 2, some .boolean, [], "has", { frames := 0, cells := 0, slots := 0, locals := 0 })
abbrev mX6_append : jM := (RX6, cX6_append, 5, some .int, [], "append", { frames := 4, cells := 0, slots := 0, locals := 91 })
abbrev mX6_removeLast : jM := (RX6, cX6_removeLast, 2, some .int, [], "removeLast", { frames := 1, cells := 0, slots := 0, locals := 21 })
abbrev mX6_givePitch : jM := (RX6, cX6_givePitch, 4, none, [], "givePitch", { frames := 3, cells := 0, slots := 0, locals := 68 })
abbrev mX6_writeForInstrument : jM := (RX6, cX6_writeForInstrument, 5, none, [], "writeForInstrument", { frames := 2, cells := 0, slots := 0, locals := 44 })
abbrev mX6_changeRange : jM := (RX6, cX6_changeRange, 3, none, [], "changeRange", { frames := 0, cells := 0, slots := 0, locals := 0 })
abbrev mX6_changeShift : jM := (RX6, cX6_changeShift, 4, none, [], "changeShift", { frames := 3, cells := 0, slots := 0, locals := 68 })
abbrev mX6_isNote : jM := (RX6, cX6_isNote, 2, some .boolean, [], "isNote", { frames := 1, cells := 0, slots := 0, locals := 21 })
abbrev mX6_placeAt : jM := (RX6, cX6_placeAt, 2, some .int, [], "placeAt", { frames := 1, cells := 0, slots := 0, locals := 21 })
abbrev mX6_alterAt : jM := (RX6, cX6_alterAt, 2, some .int, [], "alterAt", { frames := 1, cells := 0, slots := 0, locals := 21 })
abbrev mX6_heightAt : jM := (RX6, cX6_heightAt, 2, some .int, [], "heightAt", { frames := 1, cells := 0, slots := 0, locals := 21 })
abbrev mX6_beginAt : jM := (RX6, cX6_beginAt, 2, some .int, [], "beginAt", { frames := 1, cells := 0, slots := 0, locals := 21 })
abbrev mX6_endAt : jM := (RX6, cX6_endAt, 2, some .int, [], "endAt", { frames := 1, cells := 0, slots := 0, locals := 21 })
abbrev mX6_firstEndingBehind : jM := (RX6, cX6_firstEndingBehind, 6, some .int, [], "firstEndingBehind", { frames := 2, cells := 0, slots := 0, locals := 42 })
abbrev mX6_isOutOfRange : jM := (RX6, cX6_isOutOfRange, 2, some .boolean, [], "isOutOfRange", { frames := 1, cells := 0, slots := 0, locals := 21 })
abbrev mX6_writtenPlaceAt : jM := (RX6, cX6_writtenPlaceAt, 2, some .int, [], "writtenPlaceAt", { frames := 1, cells := 0, slots := 0, locals := 21 })
abbrev mX6_writtenAlterAt : jM := (RX6, cX6_writtenAlterAt, 2, some .int, [], "writtenAlterAt", { frames := 1, cells := 0, slots := 0, locals := 21 })
abbrev mX6_keyAsWritten : jM := (RX6, cX6_keyAsWritten, 3, some .int, [], "keyAsWritten", { frames := 0, cells := 0, slots := 0, locals := 0 })
abbrev mX6_notes : jM := (RX6, cX6_notes, 3, some .int, [], "notes", { frames := 2, cells := 0, slots := 0, locals := 42 })
abbrev mX6_notesOutOfRange : jM := (RX6, cX6_notesOutOfRange, 3, some .int, [], "notesOutOfRange", { frames := 2, cells := 0, slots := 0, locals := 42 })
abbrev mX6_notesWithoutWrittenPitch : jM := (RX6, cX6_notesWithoutWrittenPitch, 3, some .int, [], "notesWithoutWrittenPitch", { frames := 2, cells := 0, slots := 0, locals := 42 })
abbrev mX6_sumOfHeights : jM := (RX6, cX6_sumOfHeights, 3, some .int, [], "sumOfHeights", { frames := 2, cells := 0, slots := 0, locals := 42 })
abbrev mX7_isPitch : jM := (RX7, cX7_isPitch, 2, some .boolean, [], "isPitch", { frames := 0, cells := 0, slots := 0, locals := 0 })
abbrev mX7_plainHeight : jM := (RX7, cX7_plainHeight, 3, some .int, [], "plainHeight", { frames := 1, cells := 0, slots := 0, locals := 22 })
abbrev mX7_alterByKey : jM := (RX7, cX7_alterByKey, 3, some .int, [], "alterByKey", { frames := 0, cells := 0, slots := 0, locals := 0 })
abbrev mX8_isValue : jM := (RX8, cX8_isValue, 2, some .boolean, [], "isValue", { frames := 0, cells := 0, slots := 0, locals := 0 })
abbrev mX8_greatestIn : jM := (RX8, cX8_greatestIn, 2, some .int, [], "greatestIn", { frames := 0, cells := 0, slots := 0, locals := 0 })
abbrev mX9_init : jM := (RX9, cX9_init, 2, none, [], "<init>", { frames := 3, cells := 66, slots := 25968, locals := 67 })
abbrev mX9_addNote : jM := (RX9, cX9_addNote, 6, some .int, [], "addNote", { frames := 7, cells := 1, slots := 6, locals := 115 })
abbrev mX9_addRest : jM := (RX9, cX9_addRest, 4, some .int, [], "addRest", { frames := 7, cells := 1, slots := 6, locals := 115 })
abbrev mX9_takeLast : jM := (RX9, cX9_takeLast, 3, some .int, [], "takeLast", { frames := 7, cells := 1, slots := 6, locals := 111 })
abbrev mX9_setPitch : jM := (RX9, cX9_setPitch, 7, some .int, [], "setPitch", { frames := 8, cells := 1, slots := 6, locals := 134 })
abbrev mX9_setMetre : jM := (RX9, cX9_setMetre, 4, some .int, [], "setMetre", { frames := 7, cells := 1, slots := 6, locals := 110 })
abbrev mX9_setKey : jM := (RX9, cX9_setKey, 4, some .int, [], "setKey", { frames := 7, cells := 1, slots := 6, locals := 110 })
abbrev mX9_setRange : jM := (RX9, cX9_setRange, 5, some .int, [], "setRange", { frames := 7, cells := 1, slots := 6, locals := 111 })
abbrev mX9_setShift : jM := (RX9, cX9_setShift, 5, some .int, [], "setShift", { frames := 7, cells := 1, slots := 6, locals := 111 })
abbrev mX9_events : jM := (RX9, cX9_events, 2, some .int, [], "events", { frames := 7, cells := 1, slots := 6, locals := 111 })
abbrev mX9_beginOf : jM := (RX9, cX9_beginOf, 3, some .int, [], "beginOf", { frames := 8, cells := 1, slots := 6, locals := 134 })
abbrev mX9_heightOf : jM := (RX9, cX9_heightOf, 3, some .int, [], "heightOf", { frames := 8, cells := 1, slots := 6, locals := 134 })
abbrev mX9_barOf : jM := (RX9, cX9_barOf, 3, some .int, [], "barOf", { frames := 8, cells := 1, slots := 6, locals := 134 })
abbrev mX9_writtenPlace : jM := (RX9, cX9_writtenPlace, 3, some .int, [], "writtenPlace", { frames := 8, cells := 1, slots := 6, locals := 134 })
abbrev mX9_writtenAlter : jM := (RX9, cX9_writtenAlter, 3, some .int, [], "writtenAlter", { frames := 8, cells := 1, slots := 6, locals := 134 })
abbrev mX9_alterIn : jM := (RX9, cX9_alterIn, 3, some .int, [], "alterIn", { frames := 7, cells := 1, slots := 6, locals := 110 })
abbrev mX9_writtenKey : jM := (RX9, cX9_writtenKey, 4, some .int, [], "writtenKey", { frames := 7, cells := 1, slots := 6, locals := 111 })
abbrev mX9_beginOfBar : jM := (RX9, cX9_beginOfBar, 2, some .int, [], "beginOfBar", { frames := 7, cells := 1, slots := 6, locals := 110 })
abbrev mX9_lengthOfBar : jM := (RX9, cX9_lengthOfBar, 2, some .int, [], "lengthOfBar", { frames := 7, cells := 1, slots := 6, locals := 110 })
abbrev mX9_signs : jM := (RX9, cX9_signs, 3, some .int, [], "signs", { frames := 8, cells := 1, slots := 6, locals := 134 })
abbrev mX9_eventOf : jM := (RX9, cX9_eventOf, 4, some .int, [], "eventOf", { frames := 9, cells := 1, slots := 6, locals := 158 })
abbrev mX9_lengthOf : jM := (RX9, cX9_lengthOf, 4, some .int, [], "lengthOf", { frames := 9, cells := 1, slots := 6, locals := 158 })
abbrev mX9_isTied : jM := (RX9, cX9_isTied, 4, some .boolean, [], "isTied", { frames := 9, cells := 1, slots := 6, locals := 158 })
abbrev mX9_shown : jM := (RX9, cX9_shown, 4, some .int, [], "shown", { frames := 9, cells := 1, slots := 6, locals := 158 })
abbrev mX9_shownWritten : jM := (RX9, cX9_shownWritten, 4, some .int, [], "shownWritten", { frames := 9, cells := 1, slots := 6, locals := 158 })
abbrev mX9_beams : jM := (RX9, cX9_beams, 3, some .int, [], "beams", { frames := 8, cells := 1, slots := 6, locals := 134 })
abbrev mX9_beamOf : jM := (RX9, cX9_beamOf, 4, some .int, [], "beamOf", { frames := 9, cells := 1, slots := 6, locals := 158 })
abbrev mX9_missing : jM := (RX9, cX9_missing, 4, some .int, [], "missing", { frames := 7, cells := 1, slots := 6, locals := 111 })
abbrev mX9_moments : jM := (RX9, cX9_moments, 1, some .int, [], "moments", { frames := 5, cells := 0, slots := 0, locals := 111 })
abbrev mX9_tickOf : jM := (RX9, cX9_tickOf, 2, some .int, [], "tickOf", { frames := 7, cells := 1, slots := 6, locals := 132 })
abbrev mX9_sounds : jM := (RX9, cX9_sounds, 3, some .int, [], "sounds", { frames := 7, cells := 1, slots := 6, locals := 132 })
abbrev mX9_root : jM := (RX9, cX9_root, 2, some .int, [], "root", { frames := 7, cells := 1, slots := 6, locals := 132 })
abbrev mX9_kind : jM := (RX9, cX9_kind, 2, some .int, [], "kind", { frames := 7, cells := 1, slots := 6, locals := 132 })
abbrev mX9_inversion : jM := (RX9, cX9_inversion, 2, some .int, [], "inversion", { frames := 7, cells := 1, slots := 6, locals := 132 })
abbrev mX9_faults : jM := (RX9, cX9_faults, 1, some .int, [], "faults", { frames := 6, cells := 0, slots := 0, locals := 131 })
abbrev mX9_kindOfFault : jM := (RX9, cX9_kindOfFault, 2, some .int, [], "kindOfFault", { frames := 7, cells := 1, slots := 6, locals := 131 })
abbrev mX9_tickOfFault : jM := (RX9, cX9_tickOfFault, 2, some .int, [], "tickOfFault", { frames := 7, cells := 1, slots := 6, locals := 131 })
abbrev mX9_partsOfFault : jM := (RX9, cX9_partsOfFault, 2, some .int, [], "partsOfFault", { frames := 7, cells := 1, slots := 6, locals := 131 })
abbrev mX9_faultsIfUp : jM := (RX9, cX9_faultsIfUp, 6, some .int, [], "faultsIfUp", { frames := 8, cells := 1, slots := 6, locals := 134 })
abbrev mX9_bars : jM := (RX9, cX9_bars, 1, some .int, [], "bars", { frames := 2, cells := 0, slots := 0, locals := 44 })
abbrev mX9_widthOf : jM := (RX9, cX9_widthOf, 2, some .int, [], "widthOf", { frames := 7, cells := 1, slots := 6, locals := 131 })
abbrev mX9_lines : jM := (RX9, cX9_lines, 2, some .int, [], "lines", { frames := 7, cells := 1, slots := 6, locals := 131 })
abbrev mX9_lineOf : jM := (RX9, cX9_lineOf, 3, some .int, [], "lineOf", { frames := 7, cells := 1, slots := 6, locals := 131 })
abbrev mX9_costOf : jM := (RX9, cX9_costOf, 2, some .int, [], "costOf", { frames := 7, cells := 1, slots := 6, locals := 131 })
abbrev mX9_meanHeight : jM := (RX9, cX9_meanHeight, 4, some .double, [], "meanHeight", { frames := 3, cells := 0, slots := 0, locals := 64 })
abbrev mX9_digest : jM := (RX9, cX9_digest, 4, some .long, [], "digest", { frames := 9, cells := 1, slots := 6, locals := 159 })
abbrev mX9_mix : jM := (RX9, cX9_mix, 4, some .long, [], "mix", { frames := 0, cells := 0, slots := 0, locals := 0 })
abbrev mX9_mixPart : jM := (RX9, cX9_mixPart, 5, some .long, [], "mixPart", { frames := 2, cells := 0, slots := 0, locals := 42 })
abbrev mX9_mixBar : jM := (RX9, cX9_mixBar, 6, some .long, [], "mixBar", { frames := 8, cells := 1, slots := 6, locals := 134 })
abbrev mX9_mixSigns : jM := (RX9, cX9_mixSigns, 5, some .long, [], "mixSigns", { frames := 2, cells := 0, slots := 0, locals := 42 })
abbrev mX9_mixMoments : jM := (RX9, cX9_mixMoments, 5, some .long, [], "mixMoments", { frames := 4, cells := 0, slots := 0, locals := 98 })
abbrev mX9_mixFaults : jM := (RX9, cX9_mixFaults, 4, some .long, [], "mixFaults", { frames := 2, cells := 0, slots := 0, locals := 42 })
abbrev mX9_mixLines : jM := (RX9, cX9_mixLines, 4, some .long, [], "mixLines", { frames := 3, cells := 0, slots := 0, locals := 73 })
abbrev mX9_forgetWhatFollows : jM := (RX9, cX9_forgetWhatFollows, 1, none, [], "forgetWhatFollows", { frames := 0, cells := 0, slots := 0, locals := 0 })
abbrev mX9_hear : jM := (RX9, cX9_hear, 1, none, [], "hear", { frames := 4, cells := 0, slots := 0, locals := 91 })
abbrev mX9_searchFaults : jM := (RX9, cX9_searchFaults, 1, none, [], "searchFaults", { frames := 5, cells := 0, slots := 0, locals := 111 })
abbrev mX9_measureWidths : jM := (RX9, cX9_measureWidths, 1, none, [], "measureWidths", { frames := 5, cells := 0, slots := 0, locals := 111 })
abbrev mX9_breakLines : jM := (RX9, cX9_breakLines, 2, none, [], "breakLines", { frames := 2, cells := 0, slots := 0, locals := 52 })
abbrev mX9_lastEnd : jM := (RX9, cX9_lastEnd, 3, some .int, [], "lastEnd", { frames := 1, cells := 0, slots := 0, locals := 21 })
abbrev mX9_allEvents : jM := (RX9, cX9_allEvents, 3, some .int, [], "allEvents", { frames := 1, cells := 0, slots := 0, locals := 20 })
abbrev mX9_partAt : jM := (RX9, cX9_partAt, 2, some (.object "ChoraleDesk$Part"), [], "partAt", { frames := 6, cells := 1, slots := 6, locals := 90 })
abbrev mX9_partWith : jM := (RX9, cX9_partWith, 4, some (.object "ChoraleDesk$Part"), [], "partWith", { frames := 7, cells := 1, slots := 6, locals := 111 })
abbrev mX9_measureAt : jM := (RX9, cX9_measureAt, 4, some (.object "ChoraleDesk$Measure"), [], "measureAt", { frames := 7, cells := 1, slots := 6, locals := 111 })
abbrev mX9_measureWith : jM := (RX9, cX9_measureWith, 5, some (.object "ChoraleDesk$Measure"), [], "measureWith", { frames := 8, cells := 1, slots := 6, locals := 134 })
abbrev mX9_chordAt : jM := (RX9, cX9_chordAt, 2, some (.object "ChoraleDesk$Chord"), [], "chordAt", { frames := 3, cells := 0, slots := 0, locals := 77 })
abbrev mX9_checkMoment : jM := (RX9, cX9_checkMoment, 2, none, [], "checkMoment", { frames := 6, cells := 1, slots := 6, locals := 111 })
abbrev mX9_checkFault : jM := (RX9, cX9_checkFault, 2, none, [], "checkFault", { frames := 6, cells := 1, slots := 6, locals := 90 })
abbrev mX9_checkRoom : jM := (RX9, cX9_checkRoom, 3, none, [], "checkRoom", { frames := 6, cells := 1, slots := 6, locals := 90 })
abbrev mX9_checkNote : jM := (RX9, cX9_checkNote, 2, none, [], "checkNote", { frames := 6, cells := 1, slots := 6, locals := 90 })
abbrev mX9_checkBar : jM := (RX9, cX9_checkBar, 1, none, [], "checkBar", { frames := 6, cells := 1, slots := 6, locals := 90 })
abbrev mX9_checkPitch : jM := (RX9, cX9_checkPitch, 2, none, [], "checkPitch", { frames := 6, cells := 1, slots := 6, locals := 90 })
abbrev mX9_checkValue : jM := (RX9, cX9_checkValue, 1, none, [], "checkValue", { frames := 6, cells := 1, slots := 6, locals := 90 })
abbrev mX9_checkKey : jM := (RX9, cX9_checkKey, 1, none, [], "checkKey", { frames := 6, cells := 1, slots := 6, locals := 90 })
abbrev mX9_checkWidth : jM := (RX9, cX9_checkWidth, 1, none, [], "checkWidth", { frames := 6, cells := 1, slots := 6, locals := 90 })
abbrev mX10_init : jM := (RX10, cX10_init, 1, none, [], "<init>", { frames := 1, cells := 4, slots := 64, locals := 20 })
abbrev mX10_end : jM := (RX10, cX10_end, 1, some .int, [], "end", { frames := 1, cells := 0, slots := 0, locals := 21 })
abbrev mX10_endOf : jM := (RX10, cX10_endOf, 2, some .int, [], "endOf", { frames := 0, cells := 0, slots := 0, locals := 0 })
abbrev mX10_add : jM := (RX10, cX10_add, 4, none, [], "add", { frames := 2, cells := 4, slots := 2048, locals := 82 })
abbrev mX10_isNote : jM := (RX10, cX10_isNote, 2, some .boolean, [], "isNote", { frames := 0, cells := 0, slots := 0, locals := 0 })
abbrev mX10_height : jM := (RX10, cX10_height, 2, some .int, [], "height", { frames := 2, cells := 0, slots := 0, locals := 42 })
abbrev mX10_isOut : jM := (RX10, cX10_isOut, 2, some .boolean, [], "isOut", { frames := 1, cells := 0, slots := 0, locals := 21 })
abbrev mX10_writtenPlace : jM := (RX10, cX10_writtenPlace, 2, some .int, [], "writtenPlace", { frames := 0, cells := 0, slots := 0, locals := 0 })
abbrev mX10_writtenAlter : jM := (RX10, cX10_writtenAlter, 2, some .int, [], "writtenAlter", { frames := 3, cells := 0, slots := 0, locals := 63 })
abbrev mX10_isWritten : jM := (RX10, cX10_isWritten, 2, some .boolean, [], "isWritten", { frames := 4, cells := 0, slots := 0, locals := 84 })
abbrev mX11_base : jM := (RX11, cX11_base, 1, some .int, [], "base", { frames := 1, cells := 0, slots := 0, locals := 22 })
abbrev mX11_is : jM := (RX11, cX11_is, 3, some .boolean, [], "is", { frames := 0, cells := 0, slots := 0, locals := 0 })
abbrev mX11_init : jM := (RX11, cX11_init, 2, none, [], "<init>", { frames := 2, cells := 38, slots := 6117, locals := 40 })
abbrev mX11_thrown : jM := (RX11, cX11_thrown, 1, some .int, [], "thrown", { frames := 0, cells := 0, slots := 0, locals := 0 })
abbrev mX11_refuse : jM := (RX11, cX11_refuse, 2, some .int, [], "refuse", { frames := 0, cells := 0, slots := 0, locals := 0 })
abbrev mX11_isPart : jM := (RX11, cX11_isPart, 1, some .boolean, [], "isPart", { frames := 1, cells := 0, slots := 0, locals := 22 })
abbrev mX11_isBar : jM := (RX11, cX11_isBar, 1, some .boolean, [], "isBar", { frames := 1, cells := 0, slots := 0, locals := 22 })
abbrev mX11_isEvent : jM := (RX11, cX11_isEvent, 3, some .boolean, [], "isEvent", { frames := 2, cells := 0, slots := 0, locals := 42 })
abbrev mX11_isPitch : jM := (RX11, cX11_isPitch, 2, some .boolean, [], "isPitch", { frames := 1, cells := 0, slots := 0, locals := 22 })
abbrev mX11_isValue : jM := (RX11, cX11_isValue, 6, some .boolean, [], "isValue", { frames := 0, cells := 0, slots := 0, locals := 0 })
abbrev mX11_length : jM := (RX11, cX11_length, 2, some .int, [], "length", { frames := 0, cells := 0, slots := 0, locals := 0 })
abbrev mX11_begin : jM := (RX11, cX11_begin, 4, some .int, [], "begin", { frames := 1, cells := 0, slots := 0, locals := 21 })
abbrev mX11_add : jM := (RX11, cX11_add, 5, some .int, [], "add", { frames := 3, cells := 4, slots := 2048, locals := 105 })
abbrev mX11_addNote : jM := (RX11, cX11_addNote, 5, some .int, [], "addNote", { frames := 4, cells := 4, slots := 2048, locals := 129 })
abbrev mX11_addRest : jM := (RX11, cX11_addRest, 3, some .int, [], "addRest", { frames := 4, cells := 4, slots := 2048, locals := 129 })
abbrev mX11_takeLast : jM := (RX11, cX11_takeLast, 3, some .int, [], "takeLast", { frames := 2, cells := 0, slots := 0, locals := 42 })
abbrev mX11_setPitch : jM := (RX11, cX11_setPitch, 7, some .int, [], "setPitch", { frames := 3, cells := 0, slots := 0, locals := 64 })
abbrev mX11_setMetre : jM := (RX11, cX11_setMetre, 5, some .int, [], "setMetre", { frames := 2, cells := 0, slots := 0, locals := 42 })
abbrev mX11_setKey : jM := (RX11, cX11_setKey, 5, some .int, [], "setKey", { frames := 2, cells := 0, slots := 0, locals := 42 })
abbrev mX11_setRange : jM := (RX11, cX11_setRange, 7, some .int, [], "setRange", { frames := 2, cells := 0, slots := 0, locals := 42 })
abbrev mX11_setShift : jM := (RX11, cX11_setShift, 7, some .int, [], "setShift", { frames := 5, cells := 0, slots := 0, locals := 105 })
abbrev mX11_events : jM := (RX11, cX11_events, 2, some .int, [], "events", { frames := 2, cells := 0, slots := 0, locals := 42 })
abbrev mX11_beginOf : jM := (RX11, cX11_beginOf, 3, some .int, [], "beginOf", { frames := 3, cells := 0, slots := 0, locals := 64 })
abbrev mX11_heightNow : jM := (RX11, cX11_heightNow, 3, some .int, [], "heightNow", { frames := 3, cells := 0, slots := 0, locals := 63 })
abbrev mX11_heightOf : jM := (RX11, cX11_heightOf, 3, some .int, [], "heightOf", { frames := 4, cells := 0, slots := 0, locals := 85 })
abbrev mX11_barAt : jM := (RX11, cX11_barAt, 4, some .int, [], "barAt", { frames := 1, cells := 0, slots := 0, locals := 21 })
abbrev mX11_barOf : jM := (RX11, cX11_barOf, 3, some .int, [], "barOf", { frames := 3, cells := 0, slots := 0, locals := 64 })
abbrev mX11_writtenPlaceNow : jM := (RX11, cX11_writtenPlaceNow, 3, some .int, [], "writtenPlaceNow", { frames := 5, cells := 0, slots := 0, locals := 105 })
abbrev mX11_writtenAlterNow : jM := (RX11, cX11_writtenAlterNow, 3, some .int, [], "writtenAlterNow", { frames := 5, cells := 0, slots := 0, locals := 105 })
abbrev mX11_writtenPlace : jM := (RX11, cX11_writtenPlace, 3, some .int, [], "writtenPlace", { frames := 6, cells := 0, slots := 0, locals := 127 })
abbrev mX11_writtenAlter : jM := (RX11, cX11_writtenAlter, 3, some .int, [], "writtenAlter", { frames := 6, cells := 0, slots := 0, locals := 127 })
abbrev mX11_altered : jM := (RX11, cX11_altered, 3, some .int, [], "altered", { frames := 1, cells := 0, slots := 0, locals := 21 })
abbrev mX11_alterIn : jM := (RX11, cX11_alterIn, 3, some .int, [], "alterIn", { frames := 2, cells := 0, slots := 0, locals := 43 })
abbrev mX11_keyWritten : jM := (RX11, cX11_keyWritten, 4, some .int, [], "keyWritten", { frames := 0, cells := 0, slots := 0, locals := 0 })
abbrev mX11_writtenKey : jM := (RX11, cX11_writtenKey, 3, some .int, [], "writtenKey", { frames := 2, cells := 0, slots := 0, locals := 42 })
abbrev mX11_beginOfBar : jM := (RX11, cX11_beginOfBar, 2, some .int, [], "beginOfBar", { frames := 2, cells := 0, slots := 0, locals := 44 })
abbrev mX11_lengthOfBar : jM := (RX11, cX11_lengthOfBar, 2, some .int, [], "lengthOfBar", { frames := 2, cells := 0, slots := 0, locals := 42 })
abbrev mX11_lay : jM := (RX11, cX11_lay, 11, none, [], "lay", { frames := 6, cells := 0, slots := 0, locals := 135 })
abbrev mX11_show : jM := (RX11, cX11_show, 11, none, [], "show", { frames := 5, cells := 0, slots := 0, locals := 105 })
abbrev mX11_beam : jM := (RX11, cX11_beam, 8, none, [], "beam", { frames := 2, cells := 0, slots := 0, locals := 43 })
abbrev mX11_isShort : jM := (RX11, cX11_isShort, 3, some .boolean, [], "isShort", { frames := 1, cells := 0, slots := 0, locals := 21 })
abbrev mX11_has : jM := (RX11, cX11_has, 3, some .boolean, [], "has", { frames := 7, cells := 0, slots := 0, locals := 165 })
abbrev mX11_has_ : jM := (RX11, cX11_has_, 4, some .boolean, [], "has", { frames := 8, cells := 0, slots := 0, locals := 187 })
abbrev mX11_signs : jM := (RX11, cX11_signs, 3, some .int, [], "signs", { frames := 8, cells := 0, slots := 0, locals := 187 })
abbrev mX11_eventOf : jM := (RX11, cX11_eventOf, 4, some .int, [], "eventOf", { frames := 9, cells := 0, slots := 0, locals := 210 })
abbrev mX11_lengthOf : jM := (RX11, cX11_lengthOf, 4, some .int, [], "lengthOf", { frames := 9, cells := 0, slots := 0, locals := 210 })
abbrev mX11_isTied : jM := (RX11, cX11_isTied, 4, some .boolean, [], "isTied", { frames := 9, cells := 0, slots := 0, locals := 210 })
abbrev mX11_shown : jM := (RX11, cX11_shown, 4, some .int, [], "shown", { frames := 9, cells := 0, slots := 0, locals := 210 })
abbrev mX11_shownWritten : jM := (RX11, cX11_shownWritten, 4, some .int, [], "shownWritten", { frames := 9, cells := 0, slots := 0, locals := 210 })
abbrev mX11_beams : jM := (RX11, cX11_beams, 3, some .int, [], "beams", { frames := 8, cells := 0, slots := 0, locals := 187 })
abbrev mX11_beamOf : jM := (RX11, cX11_beamOf, 4, some .int, [], "beamOf", { frames := 9, cells := 0, slots := 0, locals := 210 })
abbrev mX11_missingNow : jM := (RX11, cX11_missingNow, 3, some .int, [], "missingNow", { frames := 2, cells := 0, slots := 0, locals := 44 })
abbrev mX11_missing : jM := (RX11, cX11_missing, 3, some .int, [], "missing", { frames := 3, cells := 0, slots := 0, locals := 66 })
abbrev mX11_beginWalk : jM := (RX11, cX11_beginWalk, 2, none, [], "beginWalk", { frames := 0, cells := 0, slots := 0, locals := 0 })
abbrev mX11_walk : jM := (RX11, cX11_walk, 3, some .boolean, [], "walk", { frames := 1, cells := 0, slots := 0, locals := 21 })
abbrev mX11_soundsNow : jM := (RX11, cX11_soundsNow, 2, some .int, [], "soundsNow", { frames := 4, cells := 0, slots := 0, locals := 85 })
abbrev mX11_begins : jM := (RX11, cX11_begins, 2, some .boolean, [], "begins", { frames := 0, cells := 0, slots := 0, locals := 0 })
abbrev mX11_momentsNow : jM := (RX11, cX11_momentsNow, 2, some .int, [], "momentsNow", { frames := 2, cells := 0, slots := 0, locals := 43 })
abbrev mX11_moments : jM := (RX11, cX11_moments, 1, some .int, [], "moments", { frames := 3, cells := 0, slots := 0, locals := 64 })
abbrev mX11_walkTo : jM := (RX11, cX11_walkTo, 3, some .boolean, [], "walkTo", { frames := 2, cells := 0, slots := 0, locals := 43 })
abbrev mX11_tickOf : jM := (RX11, cX11_tickOf, 2, some .int, [], "tickOf", { frames := 3, cells := 0, slots := 0, locals := 65 })
abbrev mX11_sounds : jM := (RX11, cX11_sounds, 3, some .int, [], "sounds", { frames := 5, cells := 0, slots := 0, locals := 106 })
abbrev mX11_findChord : jM := (RX11, cX11_findChord, 7, none, [], "findChord", { frames := 5, cells := 2, slots := 8, locals := 106 })
abbrev mX11_root : jM := (RX11, cX11_root, 2, some .int, [], "root", { frames := 6, cells := 2, slots := 8, locals := 132 })
abbrev mX11_kind : jM := (RX11, cX11_kind, 2, some .int, [], "kind", { frames := 6, cells := 2, slots := 8, locals := 132 })
abbrev mX11_inversion : jM := (RX11, cX11_inversion, 2, some .int, [], "inversion", { frames := 6, cells := 2, slots := 8, locals := 132 })
abbrev mX11_blame : jM := (RX11, cX11_blame, 3, none, [], "blame", { frames := 0, cells := 0, slots := 0, locals := 0 })
abbrev mX11_countFaults : jM := (RX11, cX11_countFaults, 4, some .int, [], "countFaults", { frames := 6, cells := 0, slots := 0, locals := 131 })
abbrev mX11_blameParallels : jM := (RX11, cX11_blameParallels, 6, none, [], "blameParallels", { frames := 5, cells := 0, slots := 0, locals := 106 })
abbrev mX11_blamePart : jM := (RX11, cX11_blamePart, 3, none, [], "blamePart", { frames := 3, cells := 0, slots := 0, locals := 63 })
abbrev mX11_faults : jM := (RX11, cX11_faults, 1, some .int, [], "faults", { frames := 7, cells := 0, slots := 0, locals := 154 })
abbrev mX11_hasFault : jM := (RX11, cX11_hasFault, 2, some .boolean, [], "hasFault", { frames := 7, cells := 0, slots := 0, locals := 154 })
abbrev mX11_kindOfFault : jM := (RX11, cX11_kindOfFault, 2, some .int, [], "kindOfFault", { frames := 8, cells := 0, slots := 0, locals := 175 })
abbrev mX11_tickOfFault : jM := (RX11, cX11_tickOfFault, 2, some .int, [], "tickOfFault", { frames := 8, cells := 0, slots := 0, locals := 175 })
abbrev mX11_partsOfFault : jM := (RX11, cX11_partsOfFault, 2, some .int, [], "partsOfFault", { frames := 8, cells := 0, slots := 0, locals := 175 })
abbrev mX11_faultsIfUp : jM := (RX11, cX11_faultsIfUp, 5, some .int, [], "faultsIfUp", { frames := 7, cells := 0, slots := 0, locals := 154 })
abbrev mX11_barsNow : jM := (RX11, cX11_barsNow, 6, some .int, [], "barsNow", { frames := 2, cells := 0, slots := 0, locals := 44 })
abbrev mX11_bars : jM := (RX11, cX11_bars, 1, some .int, [], "bars", { frames := 3, cells := 0, slots := 0, locals := 69 })
abbrev mX11_width : jM := (RX11, cX11_width, 12, some .int, [], "width", { frames := 2, cells := 0, slots := 0, locals := 44 })
abbrev mX11_widthOf : jM := (RX11, cX11_widthOf, 2, some .int, [], "widthOf", { frames := 3, cells := 0, slots := 0, locals := 75 })
abbrev mX11_breakLines : jM := (RX11, cX11_breakLines, 7, some .int, [], "breakLines", { frames := 3, cells := 0, slots := 0, locals := 75 })
abbrev mX11_linesNow : jM := (RX11, cX11_linesNow, 5, some .int, [], "linesNow", { frames := 4, cells := 0, slots := 0, locals := 101 })
abbrev mX11_lines : jM := (RX11, cX11_lines, 2, some .int, [], "lines", { frames := 5, cells := 0, slots := 0, locals := 125 })
abbrev mX11_lineOf : jM := (RX11, cX11_lineOf, 5, some .int, [], "lineOf", { frames := 4, cells := 0, slots := 0, locals := 101 })
abbrev mX11_costNow : jM := (RX11, cX11_costNow, 2, some .int, [], "costNow", { frames := 4, cells := 0, slots := 0, locals := 101 })
abbrev mX11_costOf : jM := (RX11, cX11_costOf, 2, some .int, [], "costOf", { frames := 5, cells := 0, slots := 0, locals := 122 })
abbrev mX11_meanHeight : jM := (RX11, cX11_meanHeight, 8, some .double, [], "meanHeight", { frames := 3, cells := 0, slots := 0, locals := 63 })
abbrev mX11_add_ : jM := (RX11, cX11_add_, 2, none, [], "add", { frames := 0, cells := 0, slots := 0, locals := 0 })
abbrev mX11_addSigns : jM := (RX11, cX11_addSigns, 4, none, [], "addSigns", { frames := 7, cells := 0, slots := 0, locals := 165 })
abbrev mX11_digest : jM := (RX11, cX11_digest, 3, some .long, [], "digest", { frames := 8, cells := 1024, slots := 4096, locals := 188 })
abbrev mJ6_compare_7cf53 : jM := (RJ6, cJ6_compare_7cf53, 2, some .int, [], "compare", { frames := 0, cells := 0, slots := 0, locals := 0 })
abbrev mJ6_bitCount_0f7a4 : jM := (RJ6, cJ6_bitCount_0f7a4, 1, some .int, [], "bitCount", { frames := 0, cells := 0, slots := 0, locals := 0 })
abbrev mJ9_floorDiv_7cf53 : jM := (RJ9, cJ9_floorDiv_7cf53, 3, some .int, [], "floorDiv", { frames := 0, cells := 0, slots := 0, locals := 0 })
abbrev mJ9_floorMod_7cf53 : jM := (RJ9, cJ9_floorMod_7cf53, 3, some .int, [], "floorMod", { frames := 0, cells := 0, slots := 0, locals := 0 })
abbrev mJ9_abs_0f7a4 : jM := (RJ9, cJ9_abs_0f7a4, 1, some .int, [], "abs", { frames := 0, cells := 0, slots := 0, locals := 0 })
abbrev mJ9_max_7cf53 : jM := (RJ9, cJ9_max_7cf53, 2, some .int, [], "max", { frames := 0, cells := 0, slots := 0, locals := 0 })
abbrev mJ9_min_7cf53 : jM := (RJ9, cJ9_min_7cf53, 2, some .int, [], "min", { frames := 0, cells := 0, slots := 0, locals := 0 })
abbrev mJ7_fill_53178 : jM := (RJ7, cJ7_fill_53178, 4, none, [], "fill", { frames := 0, cells := 0, slots := 0, locals := 0 })
abbrev mJ7_copyOf_59c91 : jM := (RJ7, cJ7_copyOf_59c91, 3, some (.array .int), [], "copyOf", { frames := 1, cells := 1, slots := 512, locals := 60 })
abbrev mL_addNote : jM := (RL, cL_addNote, 7, some .int, [((0), (14), (17), (13)), ((0), (14), (21), (15)), ((0), (14), (25), (17))], "addNote", { frames := 8, cells := 1, slots := 6, locals := 140 })
abbrev mL_addRest : jM := (RL, cL_addRest, 5, some .int, [((0), (10), (13), (13)), ((0), (10), (17), (15)), ((0), (10), (21), (17))], "addRest", { frames := 8, cells := 1, slots := 6, locals := 138 })
abbrev mL_takeLast : jM := (RL, cL_takeLast, 4, some .int, [((0), (9), (12), (13)), ((0), (9), (15), (17))], "takeLast", { frames := 8, cells := 1, slots := 6, locals := 133 })
abbrev mL_setPitch : jM := (RL, cL_setPitch, 7, some .int, [((0), (14), (17), (13)), ((0), (14), (21), (15)), ((0), (14), (25), (17))], "setPitch", { frames := 9, cells := 1, slots := 6, locals := 160 })
abbrev mL_setMetre : jM := (RL, cL_setMetre, 6, some .int, [((0), (12), (15), (13)), ((0), (12), (19), (15))], "setMetre", { frames := 8, cells := 1, slots := 6, locals := 133 })
abbrev mL_setKey : jM := (RL, cL_setKey, 5, some .int, [((0), (10), (13), (13)), ((0), (10), (17), (15))], "setKey", { frames := 8, cells := 1, slots := 6, locals := 133 })
abbrev mL_setRange : jM := (RL, cL_setRange, 6, some .int, [((0), (12), (15), (13)), ((0), (12), (19), (15))], "setRange", { frames := 8, cells := 1, slots := 6, locals := 135 })
abbrev mL_setShift : jM := (RL, cL_setShift, 6, some .int, [((0), (12), (15), (13)), ((0), (12), (19), (15))], "setShift", { frames := 8, cells := 1, slots := 6, locals := 135 })
abbrev mL_events : jM := (RL, cL_events, 4, some .int, [((0), (9), (12), (13))], "events", { frames := 8, cells := 1, slots := 6, locals := 132 })
abbrev mL_beginOf : jM := (RL, cL_beginOf, 5, some .int, [((0), (10), (13), (13))], "beginOf", { frames := 9, cells := 1, slots := 6, locals := 156 })
abbrev mL_heightOf : jM := (RL, cL_heightOf, 5, some .int, [((0), (10), (13), (13))], "heightOf", { frames := 9, cells := 1, slots := 6, locals := 156 })
abbrev mL_barOf : jM := (RL, cL_barOf, 5, some .int, [((0), (10), (13), (13))], "barOf", { frames := 9, cells := 1, slots := 6, locals := 156 })
abbrev mL_writtenPlace : jM := (RL, cL_writtenPlace, 5, some .int, [((0), (10), (13), (13))], "writtenPlace", { frames := 9, cells := 1, slots := 6, locals := 156 })
abbrev mL_writtenAlter : jM := (RL, cL_writtenAlter, 5, some .int, [((0), (10), (13), (13))], "writtenAlter", { frames := 9, cells := 1, slots := 6, locals := 156 })
abbrev mL_alterIn : jM := (RL, cL_alterIn, 5, some .int, [((0), (10), (13), (15))], "alterIn", { frames := 8, cells := 1, slots := 6, locals := 132 })
abbrev mL_writtenKey : jM := (RL, cL_writtenKey, 5, some .int, [((0), (10), (13), (13))], "writtenKey", { frames := 8, cells := 1, slots := 6, locals := 134 })
abbrev mL_beginOfBar : jM := (RL, cL_beginOfBar, 4, some .int, [((0), (9), (12), (13))], "beginOfBar", { frames := 8, cells := 1, slots := 6, locals := 131 })
abbrev mL_lengthOfBar : jM := (RL, cL_lengthOfBar, 4, some .int, [((0), (9), (12), (13))], "lengthOfBar", { frames := 8, cells := 1, slots := 6, locals := 131 })
abbrev mL_signs : jM := (RL, cL_signs, 5, some .int, [((0), (10), (13), (13))], "signs", { frames := 9, cells := 1, slots := 6, locals := 156 })
abbrev mL_eventOf : jM := (RL, cL_eventOf, 6, some .int, [((0), (12), (15), (13))], "eventOf", { frames := 10, cells := 1, slots := 6, locals := 181 })
abbrev mL_lengthOf : jM := (RL, cL_lengthOf, 6, some .int, [((0), (12), (15), (13))], "lengthOf", { frames := 10, cells := 1, slots := 6, locals := 181 })
abbrev mL_isTied : jM := (RL, cL_isTied, 6, some .int, [((0), (19), (22), (13))], "isTied", { frames := 10, cells := 1, slots := 6, locals := 181 })
abbrev mL_shown : jM := (RL, cL_shown, 6, some .int, [((0), (12), (15), (13))], "shown", { frames := 10, cells := 1, slots := 6, locals := 181 })
abbrev mL_shownWritten : jM := (RL, cL_shownWritten, 6, some .int, [((0), (12), (15), (13))], "shownWritten", { frames := 10, cells := 1, slots := 6, locals := 181 })
abbrev mL_beams : jM := (RL, cL_beams, 5, some .int, [((0), (10), (13), (13))], "beams", { frames := 9, cells := 1, slots := 6, locals := 156 })
abbrev mL_beamOf : jM := (RL, cL_beamOf, 6, some .int, [((0), (12), (15), (13))], "beamOf", { frames := 10, cells := 1, slots := 6, locals := 181 })
abbrev mL_missing : jM := (RL, cL_missing, 5, some .int, [((0), (10), (13), (13))], "missing", { frames := 8, cells := 1, slots := 6, locals := 134 })
abbrev mL_tickOf : jM := (RL, cL_tickOf, 4, some .int, [((0), (9), (12), (13))], "tickOf", { frames := 8, cells := 1, slots := 6, locals := 153 })
abbrev mL_sounds : jM := (RL, cL_sounds, 5, some .int, [((0), (10), (13), (13))], "sounds", { frames := 8, cells := 1, slots := 6, locals := 154 })
abbrev mL_root : jM := (RL, cL_root, 4, some .int, [((0), (9), (12), (13))], "root", { frames := 8, cells := 1, slots := 6, locals := 153 })
abbrev mL_kind : jM := (RL, cL_kind, 4, some .int, [((0), (9), (12), (13))], "kind", { frames := 8, cells := 1, slots := 6, locals := 153 })
abbrev mL_inversion : jM := (RL, cL_inversion, 4, some .int, [((0), (9), (12), (13))], "inversion", { frames := 8, cells := 1, slots := 6, locals := 153 })
abbrev mL_kindOfFault : jM := (RL, cL_kindOfFault, 4, some .int, [((0), (9), (12), (13))], "kindOfFault", { frames := 8, cells := 1, slots := 6, locals := 152 })
abbrev mL_tickOfFault : jM := (RL, cL_tickOfFault, 4, some .int, [((0), (9), (12), (13))], "tickOfFault", { frames := 8, cells := 1, slots := 6, locals := 152 })
abbrev mL_partsOfFault : jM := (RL, cL_partsOfFault, 4, some .int, [((0), (9), (12), (13))], "partsOfFault", { frames := 8, cells := 1, slots := 6, locals := 152 })
abbrev mL_faultsIfUp : jM := (RL, cL_faultsIfUp, 5, some .int, [((0), (10), (13), (13)), ((0), (10), (17), (17))], "faultsIfUp", { frames := 9, cells := 1, slots := 6, locals := 159 })
abbrev mL_widthOf : jM := (RL, cL_widthOf, 4, some .int, [((0), (9), (12), (13))], "widthOf", { frames := 8, cells := 1, slots := 6, locals := 152 })
abbrev mL_lines : jM := (RL, cL_lines, 4, some .int, [((0), (9), (12), (15))], "lines", { frames := 8, cells := 1, slots := 6, locals := 152 })
abbrev mL_lineOf : jM := (RL, cL_lineOf, 5, some .int, [((0), (10), (13), (13)), ((0), (10), (17), (15))], "lineOf", { frames := 8, cells := 1, slots := 6, locals := 153 })
abbrev mL_costOf : jM := (RL, cL_costOf, 4, some .int, [((0), (9), (12), (15))], "costOf", { frames := 8, cells := 1, slots := 6, locals := 152 })
theorem ceX0_changeMetre : jCe yX0_changeMetre mX0_changeMetre 3 := ⟨wt 3 (by decide +kernel) rfl, wt 88 (by decide +kernel) rfl, by decide +kernel, by decide +kernel⟩
theorem cvX0_changeMetre : Cond.instanceMethod yX0_changeMetre ∈ WT ∧ Cond.selects yX0_changeMetre.cls yX0_changeMetre yX0_changeMetre ∈ WT ∧ vwCl[0]? = some (yX0_changeMetre.cls, TX0, 5) := ⟨wt 86 (by decide +kernel) rfl, wt 87 (by decide +kernel) rfl, rfl⟩
theorem ceX0_isBar : jCe yX0_isBar mX0_isBar 1 := ⟨wt 3 (by decide +kernel) rfl, wt 91 (by decide +kernel) rfl, by decide +kernel, by decide +kernel⟩
theorem csX0_isBar : Cond.static yX0_isBar ∈ WT := wt 90 (by decide +kernel) rfl
theorem ceX0_beginAt : jCe yX0_beginAt mX0_beginAt 1 := ⟨wt 3 (by decide +kernel) rfl, wt 95 (by decide +kernel) rfl, by decide +kernel, by decide +kernel⟩
theorem cvX0_beginAt : Cond.instanceMethod yX0_beginAt ∈ WT ∧ Cond.selects yX0_beginAt.cls yX0_beginAt yX0_beginAt ∈ WT ∧ vwCl[0]? = some (yX0_beginAt.cls, TX0, 5) := ⟨wt 93 (by decide +kernel) rfl, wt 94 (by decide +kernel) rfl, rfl⟩
theorem ceX0_barAt : jCe yX0_barAt mX0_barAt 1 := ⟨wt 3 (by decide +kernel) rfl, wt 415 (by decide +kernel) rfl, by decide +kernel, by decide +kernel⟩
theorem cvX0_barAt : Cond.instanceMethod yX0_barAt ∈ WT ∧ Cond.selects yX0_barAt.cls yX0_barAt yX0_barAt ∈ WT ∧ vwCl[0]? = some (yX0_barAt.cls, TX0, 5) := ⟨wt 413 (by decide +kernel) rfl, wt 414 (by decide +kernel) rfl, rfl⟩
theorem ceX0_lengthAt : jCe yX0_lengthAt mX0_lengthAt 1 := ⟨wt 3 (by decide +kernel) rfl, wt 446 (by decide +kernel) rfl, by decide +kernel, by decide +kernel⟩
theorem cvX0_lengthAt : Cond.instanceMethod yX0_lengthAt ∈ WT ∧ Cond.selects yX0_lengthAt.cls yX0_lengthAt yX0_lengthAt ∈ WT ∧ vwCl[0]? = some (yX0_lengthAt.cls, TX0, 5) := ⟨wt 444 (by decide +kernel) rfl, wt 445 (by decide +kernel) rfl, rfl⟩
theorem ceJ9_min_7cf53 : jCe yJ9_min_7cf53 mJ9_min_7cf53 2 := ⟨wt 20 (by decide +kernel) rfl, wt 308 (by decide +kernel) rfl, by decide +kernel, by decide +kernel⟩
theorem csJ9_min_7cf53 : Cond.static yJ9_min_7cf53 ∈ WT := wt 307 (by decide +kernel) rfl
theorem ceJ9_max_7cf53 : jCe yJ9_max_7cf53 mJ9_max_7cf53 2 := ⟨wt 20 (by decide +kernel) rfl, wt 407 (by decide +kernel) rfl, by decide +kernel, by decide +kernel⟩
theorem csJ9_max_7cf53 : Cond.static yJ9_max_7cf53 ∈ WT := wt 406 (by decide +kernel) rfl
theorem ceX3_eventAt : jCe yX3_eventAt mX3_eventAt 2 := ⟨wt 5 (by decide +kernel) rfl, wt 350 (by decide +kernel) rfl, by decide +kernel, by decide +kernel⟩
theorem cvX3_eventAt : Cond.instanceMethod yX3_eventAt ∈ WT ∧ Cond.selects yX3_eventAt.cls yX3_eventAt yX3_eventAt ∈ WT ∧ vwCl[3]? = some (yX3_eventAt.cls, TX3, 4) := ⟨wt 348 (by decide +kernel) rfl, wt 349 (by decide +kernel) rfl, rfl⟩
theorem ceX6_heightAt : jCe yX6_heightAt mX6_heightAt 1 := ⟨wt 2 (by decide +kernel) rfl, wt 354 (by decide +kernel) rfl, by decide +kernel, by decide +kernel⟩
theorem cvX6_heightAt : Cond.instanceMethod yX6_heightAt ∈ WT ∧ Cond.selects yX6_heightAt.cls yX6_heightAt yX6_heightAt ∈ WT ∧ vwCl[6]? = some (yX6_heightAt.cls, TX6, 13) := ⟨wt 352 (by decide +kernel) rfl, wt 353 (by decide +kernel) rfl, rfl⟩
theorem ceX1_forget : jCe yX1_forget mX1_forget 0 := ⟨wt 6 (by decide +kernel) rfl, wt 723 (by decide +kernel) rfl, by decide +kernel, by decide +kernel⟩
theorem cvX1_forget : Cond.instanceMethod yX1_forget ∈ WT ∧ Cond.selects yX1_forget.cls yX1_forget yX1_forget ∈ WT ∧ vwCl[1]? = some (yX1_forget.cls, TX1, 3) := ⟨wt 722 (by decide +kernel) rfl, wt_p 27 (by decide +kernel : _ = some (_, 3)), rfl⟩
theorem ceJ6_bitCount_0f7a4 : jCe yJ6_bitCount_0f7a4 mJ6_bitCount_0f7a4 1 := ⟨wt 22 (by decide +kernel) rfl, wt 726 (by decide +kernel) rfl, by decide +kernel, by decide +kernel⟩
theorem csJ6_bitCount_0f7a4 : Cond.static yJ6_bitCount_0f7a4 ∈ WT := wt 725 (by decide +kernel) rfl
theorem ceX1_findRoot : jCe yX1_findRoot mX1_findRoot 2 := ⟨wt 6 (by decide +kernel) rfl, wt 733 (by decide +kernel) rfl, by decide +kernel, by decide +kernel⟩
theorem cvX1_findRoot : Cond.instanceMethod yX1_findRoot ∈ WT ∧ Cond.selects yX1_findRoot.cls yX1_findRoot yX1_findRoot ∈ WT ∧ vwCl[1]? = some (yX1_findRoot.cls, TX1, 3) := ⟨wt 732 (by decide +kernel) rfl, wt_p 28 (by decide +kernel : _ = some (_, 3)), rfl⟩
theorem ceX1_findKind : jCe yX1_findKind mX1_findKind 3 := ⟨wt 6 (by decide +kernel) rfl, wt 737 (by decide +kernel) rfl, by decide +kernel, by decide +kernel⟩
theorem cvX1_findKind : Cond.instanceMethod yX1_findKind ∈ WT ∧ Cond.selects yX1_findKind.cls yX1_findKind yX1_findKind ∈ WT ∧ vwCl[1]? = some (yX1_findKind.cls, TX1, 3) := ⟨wt 736 (by decide +kernel) rfl, wt_p 29 (by decide +kernel : _ = some (_, 3)), rfl⟩
theorem ceX2_has : jCe yX2_has mX2_has 1 := ⟨wt 7 (by decide +kernel) rfl, wt 765 (by decide +kernel) rfl, by decide +kernel, by decide +kernel⟩
theorem cvX2_has : Cond.instanceMethod yX2_has ∈ WT ∧ Cond.selects yX2_has.cls yX2_has yX2_has ∈ WT ∧ vwCl[2]? = some (yX2_has.cls, TX2, 8) := ⟨wt 763 (by decide +kernel) rfl, wt 764 (by decide +kernel) rfl, rfl⟩
theorem ceJ7_fill_53178 : jCe yJ7_fill_53178 mJ7_fill_53178 2 := ⟨wt 11 (by decide +kernel) rfl, wt 292 (by decide +kernel) rfl, by decide +kernel, by decide +kernel⟩
theorem csJ7_fill_53178 : Cond.static yJ7_fill_53178 ∈ WT := wt 291 (by decide +kernel) rfl
theorem ceX3_size : jCe yX3_size mX3_size 0 := ⟨wt 5 (by decide +kernel) rfl, wt 320 (by decide +kernel) rfl, by decide +kernel, by decide +kernel⟩
theorem cvX3_size : Cond.instanceMethod yX3_size ∈ WT ∧ Cond.selects yX3_size.cls yX3_size yX3_size ∈ WT ∧ vwCl[3]? = some (yX3_size.cls, TX3, 4) := ⟨wt 318 (by decide +kernel) rfl, wt 319 (by decide +kernel) rfl, rfl⟩
theorem ceX3_tickAt : jCe yX3_tickAt mX3_tickAt 1 := ⟨wt 5 (by decide +kernel) rfl, wt 338 (by decide +kernel) rfl, by decide +kernel, by decide +kernel⟩
theorem cvX3_tickAt : Cond.instanceMethod yX3_tickAt ∈ WT ∧ Cond.selects yX3_tickAt.cls yX3_tickAt yX3_tickAt ∈ WT ∧ vwCl[3]? = some (yX3_tickAt.cls, TX3, 4) := ⟨wt 336 (by decide +kernel) rfl, wt 337 (by decide +kernel) rfl, rfl⟩
theorem ceX2_goOn : jCe yX2_goOn mX2_goOn 3 := ⟨wt 7 (by decide +kernel) rfl, wt 346 (by decide +kernel) rfl, by decide +kernel, by decide +kernel⟩
theorem cvX2_goOn : Cond.instanceMethod yX2_goOn ∈ WT ∧ Cond.selects yX2_goOn.cls yX2_goOn yX2_goOn ∈ WT ∧ vwCl[2]? = some (yX2_goOn.cls, TX2, 8) := ⟨wt 345 (by decide +kernel) rfl, wt_p 4 (by decide +kernel : _ = some (_, 8)), rfl⟩
theorem ceX2_searchParallels : jCe yX2_searchParallels mX2_searchParallels 1 := ⟨wt 7 (by decide +kernel) rfl, wt 366 (by decide +kernel) rfl, by decide +kernel, by decide +kernel⟩
theorem cvX2_searchParallels : Cond.instanceMethod yX2_searchParallels ∈ WT ∧ Cond.selects yX2_searchParallels.cls yX2_searchParallels yX2_searchParallels ∈ WT ∧ vwCl[2]? = some (yX2_searchParallels.cls, TX2, 8) := ⟨wt 365 (by decide +kernel) rfl, wt_p 5 (by decide +kernel : _ = some (_, 8)), rfl⟩
theorem ceX2_searchCrossings : jCe yX2_searchCrossings mX2_searchCrossings 1 := ⟨wt 7 (by decide +kernel) rfl, wt 377 (by decide +kernel) rfl, by decide +kernel, by decide +kernel⟩
theorem cvX2_searchCrossings : Cond.instanceMethod yX2_searchCrossings ∈ WT ∧ Cond.selects yX2_searchCrossings.cls yX2_searchCrossings yX2_searchCrossings ∈ WT ∧ vwCl[2]? = some (yX2_searchCrossings.cls, TX2, 8) := ⟨wt 376 (by decide +kernel) rfl, wt_p 7 (by decide +kernel : _ = some (_, 8)), rfl⟩
theorem ceX2_searchNote : jCe yX2_searchNote mX2_searchNote 3 := ⟨wt 7 (by decide +kernel) rfl, wt 381 (by decide +kernel) rfl, by decide +kernel, by decide +kernel⟩
theorem cvX2_searchNote : Cond.instanceMethod yX2_searchNote ∈ WT ∧ Cond.selects yX2_searchNote.cls yX2_searchNote yX2_searchNote ∈ WT ∧ vwCl[2]? = some (yX2_searchNote.cls, TX2, 8) := ⟨wt 380 (by decide +kernel) rfl, wt_p 8 (by decide +kernel : _ = some (_, 8)), rfl⟩
theorem ceX6_isNote : jCe yX6_isNote mX6_isNote 1 := ⟨wt 2 (by decide +kernel) rfl, wt 358 (by decide +kernel) rfl, by decide +kernel, by decide +kernel⟩
theorem cvX6_isNote : Cond.instanceMethod yX6_isNote ∈ WT ∧ Cond.selects yX6_isNote.cls yX6_isNote yX6_isNote ∈ WT ∧ vwCl[6]? = some (yX6_isNote.cls, TX6, 13) := ⟨wt 356 (by decide +kernel) rfl, wt 357 (by decide +kernel) rfl, rfl⟩
theorem ceX6_beginAt : jCe yX6_beginAt mX6_beginAt 1 := ⟨wt 2 (by decide +kernel) rfl, wt 304 (by decide +kernel) rfl, by decide +kernel, by decide +kernel⟩
theorem cvX6_beginAt : Cond.instanceMethod yX6_beginAt ∈ WT ∧ Cond.selects yX6_beginAt.cls yX6_beginAt yX6_beginAt ∈ WT ∧ vwCl[6]? = some (yX6_beginAt.cls, TX6, 13) := ⟨wt 302 (by decide +kernel) rfl, wt 303 (by decide +kernel) rfl, rfl⟩
theorem ceJ6_compare_7cf53 : jCe yJ6_compare_7cf53 mJ6_compare_7cf53 2 := ⟨wt 22 (by decide +kernel) rfl, wt 362 (by decide +kernel) rfl, by decide +kernel, by decide +kernel⟩
theorem csJ6_compare_7cf53 : Cond.static yJ6_compare_7cf53 ∈ WT := wt 361 (by decide +kernel) rfl
theorem ceJ9_floorMod_7cf53 : jCe yJ9_floorMod_7cf53 mJ9_floorMod_7cf53 2 := ⟨wt 20 (by decide +kernel) rfl, wt 369 (by decide +kernel) rfl, by decide +kernel, by decide +kernel⟩
theorem csJ9_floorMod_7cf53 : Cond.static yJ9_floorMod_7cf53 ∈ WT := wt 368 (by decide +kernel) rfl
theorem ceX2_add : jCe yX2_add mX2_add 3 := ⟨wt 7 (by decide +kernel) rfl, wt 373 (by decide +kernel) rfl, by decide +kernel, by decide +kernel⟩
theorem cvX2_add : Cond.instanceMethod yX2_add ∈ WT ∧ Cond.selects yX2_add.cls yX2_add yX2_add ∈ WT ∧ vwCl[2]? = some (yX2_add.cls, TX2, 8) := ⟨wt 372 (by decide +kernel) rfl, wt_p 6 (by decide +kernel : _ = some (_, 8)), rfl⟩
theorem ceJ9_abs_0f7a4 : jCe yJ9_abs_0f7a4 mJ9_abs_0f7a4 1 := ⟨wt 20 (by decide +kernel) rfl, wt 384 (by decide +kernel) rfl, by decide +kernel, by decide +kernel⟩
theorem csJ9_abs_0f7a4 : Cond.static yJ9_abs_0f7a4 ∈ WT := wt 383 (by decide +kernel) rfl
theorem ceX6_isOutOfRange : jCe yX6_isOutOfRange mX6_isOutOfRange 1 := ⟨wt 2 (by decide +kernel) rfl, wt 388 (by decide +kernel) rfl, by decide +kernel, by decide +kernel⟩
theorem cvX6_isOutOfRange : Cond.instanceMethod yX6_isOutOfRange ∈ WT ∧ Cond.selects yX6_isOutOfRange.cls yX6_isOutOfRange yX6_isOutOfRange ∈ WT ∧ vwCl[6]? = some (yX6_isOutOfRange.cls, TX6, 13) := ⟨wt 386 (by decide +kernel) rfl, wt 387 (by decide +kernel) rfl, rfl⟩
theorem ceX3_has : jCe yX3_has mX3_has 1 := ⟨wt 5 (by decide +kernel) rfl, wt 342 (by decide +kernel) rfl, by decide +kernel, by decide +kernel⟩
theorem cvX3_has : Cond.instanceMethod yX3_has ∈ WT ∧ Cond.selects yX3_has.cls yX3_has yX3_has ∈ WT ∧ vwCl[3]? = some (yX3_has.cls, TX3, 4) := ⟨wt 340 (by decide +kernel) rfl, wt 341 (by decide +kernel) rfl, rfl⟩
theorem ceX3_nextBegin : jCe yX3_nextBegin mX3_nextBegin 1 := ⟨wt 5 (by decide +kernel) rfl, wt 296 (by decide +kernel) rfl, by decide +kernel, by decide +kernel⟩
theorem cvX3_nextBegin : Cond.instanceMethod yX3_nextBegin ∈ WT ∧ Cond.selects yX3_nextBegin.cls yX3_nextBegin yX3_nextBegin ∈ WT ∧ vwCl[3]? = some (yX3_nextBegin.cls, TX3, 4) := ⟨wt 295 (by decide +kernel) rfl, wt_p 1 (by decide +kernel : _ = some (_, 4)), rfl⟩
theorem ceX3_eventGoingOn : jCe yX3_eventGoingOn mX3_eventGoingOn 3 := ⟨wt 5 (by decide +kernel) rfl, wt 312 (by decide +kernel) rfl, by decide +kernel, by decide +kernel⟩
theorem cvX3_eventGoingOn : Cond.instanceMethod yX3_eventGoingOn ∈ WT ∧ Cond.selects yX3_eventGoingOn.cls yX3_eventGoingOn yX3_eventGoingOn ∈ WT ∧ vwCl[3]? = some (yX3_eventGoingOn.cls, TX3, 4) := ⟨wt 311 (by decide +kernel) rfl, wt_p 2 (by decide +kernel : _ = some (_, 4)), rfl⟩
theorem ceX6_has : jCe yX6_has mX6_has 1 := ⟨wt 2 (by decide +kernel) rfl, wt 300 (by decide +kernel) rfl, by decide +kernel, by decide +kernel⟩
theorem cvX6_has : Cond.instanceMethod yX6_has ∈ WT ∧ Cond.selects yX6_has.cls yX6_has yX6_has ∈ WT ∧ vwCl[6]? = some (yX6_has.cls, TX6, 13) := ⟨wt 298 (by decide +kernel) rfl, wt 299 (by decide +kernel) rfl, rfl⟩
theorem ceX6_endAt : jCe yX6_endAt mX6_endAt 1 := ⟨wt 2 (by decide +kernel) rfl, wt 316 (by decide +kernel) rfl, by decide +kernel, by decide +kernel⟩
theorem cvX6_endAt : Cond.instanceMethod yX6_endAt ∈ WT ∧ Cond.selects yX6_endAt.cls yX6_endAt yX6_endAt ∈ WT ∧ vwCl[6]? = some (yX6_endAt.cls, TX6, 13) := ⟨wt 314 (by decide +kernel) rfl, wt 315 (by decide +kernel) rfl, rfl⟩
theorem ceX0_keyAt : jCe yX0_keyAt mX0_keyAt 1 := ⟨wt 3 (by decide +kernel) rfl, wt 450 (by decide +kernel) rfl, by decide +kernel, by decide +kernel⟩
theorem cvX0_keyAt : Cond.instanceMethod yX0_keyAt ∈ WT ∧ Cond.selects yX0_keyAt.cls yX0_keyAt yX0_keyAt ∈ WT ∧ vwCl[0]? = some (yX0_keyAt.cls, TX0, 5) := ⟨wt 448 (by decide +kernel) rfl, wt 449 (by decide +kernel) rfl, rfl⟩
theorem ceX4_widthOfGap : jCe yX4_widthOfGap mX4_widthOfGap 1 := ⟨wt 8 (by decide +kernel) rfl, wt 456 (by decide +kernel) rfl, by decide +kernel, by decide +kernel⟩
theorem csX4_widthOfGap : Cond.static yX4_widthOfGap ∈ WT := wt 455 (by decide +kernel) rfl
theorem ceX4_chooseLine : jCe yX4_chooseLine mX4_chooseLine 3 := ⟨wt 8 (by decide +kernel) rfl, wt 792 (by decide +kernel) rfl, by decide +kernel, by decide +kernel⟩
theorem cvX4_chooseLine : Cond.instanceMethod yX4_chooseLine ∈ WT ∧ Cond.selects yX4_chooseLine.cls yX4_chooseLine yX4_chooseLine ∈ WT ∧ vwCl[4]? = some (yX4_chooseLine.cls, TX4, 5) := ⟨wt 791 (by decide +kernel) rfl, wt_p 33 (by decide +kernel : _ = some (_, 5)), rfl⟩
theorem ceX4_numberLines : jCe yX4_numberLines mX4_numberLines 1 := ⟨wt 8 (by decide +kernel) rfl, wt 796 (by decide +kernel) rfl, by decide +kernel, by decide +kernel⟩
theorem cvX4_numberLines : Cond.instanceMethod yX4_numberLines ∈ WT ∧ Cond.selects yX4_numberLines.cls yX4_numberLines yX4_numberLines ∈ WT ∧ vwCl[4]? = some (yX4_numberLines.cls, TX4, 5) := ⟨wt 795 (by decide +kernel) rfl, wt_p 34 (by decide +kernel : _ = some (_, 5)), rfl⟩
theorem ceX5_has : jCe yX5_has mX5_has 1 := ⟨wt 4 (by decide +kernel) rfl, wt 624 (by decide +kernel) rfl, by decide +kernel, by decide +kernel⟩
theorem cvX5_has : Cond.instanceMethod yX5_has ∈ WT ∧ Cond.selects yX5_has.cls yX5_has yX5_has ∈ WT ∧ vwCl[5]? = some (yX5_has.cls, TX5, 11) := ⟨wt 622 (by decide +kernel) rfl, wt 623 (by decide +kernel) rfl, rfl⟩
theorem ceX6_firstEndingBehind : jCe yX6_firstEndingBehind mX6_firstEndingBehind 1 := ⟨wt 2 (by decide +kernel) rfl, wt 580 (by decide +kernel) rfl, by decide +kernel, by decide +kernel⟩
theorem cvX6_firstEndingBehind : Cond.instanceMethod yX6_firstEndingBehind ∈ WT ∧ Cond.selects yX6_firstEndingBehind.cls yX6_firstEndingBehind yX6_firstEndingBehind ∈ WT ∧ vwCl[6]? = some (yX6_firstEndingBehind.cls, TX6, 13) := ⟨wt 578 (by decide +kernel) rfl, wt 579 (by decide +kernel) rfl, rfl⟩
theorem ceX6_size : jCe yX6_size mX6_size 0 := ⟨wt 2 (by decide +kernel) rfl, wt 465 (by decide +kernel) rfl, by decide +kernel, by decide +kernel⟩
theorem cvX6_size : Cond.instanceMethod yX6_size ∈ WT ∧ Cond.selects yX6_size.cls yX6_size yX6_size ∈ WT ∧ vwCl[6]? = some (yX6_size.cls, TX6, 13) := ⟨wt 463 (by decide +kernel) rfl, wt 464 (by decide +kernel) rfl, rfl⟩
theorem ceX5_writeStretch : jCe yX5_writeStretch mX5_writeStretch 3 := ⟨wt 4 (by decide +kernel) rfl, wt 590 (by decide +kernel) rfl, by decide +kernel, by decide +kernel⟩
theorem cvX5_writeStretch : Cond.instanceMethod yX5_writeStretch ∈ WT ∧ Cond.selects yX5_writeStretch.cls yX5_writeStretch yX5_writeStretch ∈ WT ∧ vwCl[5]? = some (yX5_writeStretch.cls, TX5, 11) := ⟨wt 589 (by decide +kernel) rfl, wt_p 16 (by decide +kernel : _ = some (_, 11)), rfl⟩
theorem ceX0_end : jCe yX0_end mX0_end 0 := ⟨wt 3 (by decide +kernel) rfl, wt 603 (by decide +kernel) rfl, by decide +kernel, by decide +kernel⟩
theorem cvX0_end : Cond.instanceMethod yX0_end ∈ WT ∧ Cond.selects yX0_end.cls yX0_end yX0_end ∈ WT ∧ vwCl[0]? = some (yX0_end.cls, TX0, 5) := ⟨wt 601 (by decide +kernel) rfl, wt 602 (by decide +kernel) rfl, rfl⟩
theorem ceX5_markSigns : jCe yX5_markSigns mX5_markSigns 2 := ⟨wt 4 (by decide +kernel) rfl, wt 607 (by decide +kernel) rfl, by decide +kernel, by decide +kernel⟩
theorem cvX5_markSigns : Cond.instanceMethod yX5_markSigns ∈ WT ∧ Cond.selects yX5_markSigns.cls yX5_markSigns yX5_markSigns ∈ WT ∧ vwCl[5]? = some (yX5_markSigns.cls, TX5, 11) := ⟨wt 606 (by decide +kernel) rfl, wt_p 18 (by decide +kernel : _ = some (_, 11)), rfl⟩
theorem ceX0_groupLengthAt : jCe yX0_groupLengthAt mX0_groupLengthAt 1 := ⟨wt 3 (by decide +kernel) rfl, wt 612 (by decide +kernel) rfl, by decide +kernel, by decide +kernel⟩
theorem cvX0_groupLengthAt : Cond.instanceMethod yX0_groupLengthAt ∈ WT ∧ Cond.selects yX0_groupLengthAt.cls yX0_groupLengthAt yX0_groupLengthAt ∈ WT ∧ vwCl[0]? = some (yX0_groupLengthAt.cls, TX0, 5) := ⟨wt 610 (by decide +kernel) rfl, wt 611 (by decide +kernel) rfl, rfl⟩
theorem ceX5_beamSigns : jCe yX5_beamSigns mX5_beamSigns 3 := ⟨wt 4 (by decide +kernel) rfl, wt 616 (by decide +kernel) rfl, by decide +kernel, by decide +kernel⟩
theorem cvX5_beamSigns : Cond.instanceMethod yX5_beamSigns ∈ WT ∧ Cond.selects yX5_beamSigns.cls yX5_beamSigns yX5_beamSigns ∈ WT ∧ vwCl[5]? = some (yX5_beamSigns.cls, TX5, 11) := ⟨wt 615 (by decide +kernel) rfl, wt_p 19 (by decide +kernel : _ = some (_, 11)), rfl⟩
theorem ceX5_showAlters : jCe yX5_showAlters mX5_showAlters 2 := ⟨wt 4 (by decide +kernel) rfl, wt 629 (by decide +kernel) rfl, by decide +kernel, by decide +kernel⟩
theorem cvX5_showAlters : Cond.instanceMethod yX5_showAlters ∈ WT ∧ Cond.selects yX5_showAlters.cls yX5_showAlters yX5_showAlters ∈ WT ∧ vwCl[5]? = some (yX5_showAlters.cls, TX5, 11) := ⟨wt 628 (by decide +kernel) rfl, wt_p 21 (by decide +kernel : _ = some (_, 11)), rfl⟩
theorem ceX6_keyAsWritten : jCe yX6_keyAsWritten mX6_keyAsWritten 1 := ⟨wt 2 (by decide +kernel) rfl, wt 651 (by decide +kernel) rfl, by decide +kernel, by decide +kernel⟩
theorem cvX6_keyAsWritten : Cond.instanceMethod yX6_keyAsWritten ∈ WT ∧ Cond.selects yX6_keyAsWritten.cls yX6_keyAsWritten yX6_keyAsWritten ∈ WT ∧ vwCl[6]? = some (yX6_keyAsWritten.cls, TX6, 13) := ⟨wt 649 (by decide +kernel) rfl, wt 650 (by decide +kernel) rfl, rfl⟩
theorem ceX5_showAltersAsWritten : jCe yX5_showAltersAsWritten mX5_showAltersAsWritten 2 := ⟨wt 4 (by decide +kernel) rfl, wt 655 (by decide +kernel) rfl, by decide +kernel, by decide +kernel⟩
theorem cvX5_showAltersAsWritten : Cond.instanceMethod yX5_showAltersAsWritten ∈ WT ∧ Cond.selects yX5_showAltersAsWritten.cls yX5_showAltersAsWritten yX5_showAltersAsWritten ∈ WT ∧ vwCl[5]? = some (yX5_showAltersAsWritten.cls, TX5, 11) := ⟨wt 654 (by decide +kernel) rfl, wt_p 23 (by decide +kernel : _ = some (_, 11)), rfl⟩
theorem ceX8_greatestIn : jCe yX8_greatestIn mX8_greatestIn 1 := ⟨wt 18 (by decide +kernel) rfl, wt 593 (by decide +kernel) rfl, by decide +kernel, by decide +kernel⟩
theorem csX8_greatestIn : Cond.static yX8_greatestIn ∈ WT := wt 592 (by decide +kernel) rfl
theorem ceX5_addSign : jCe yX5_addSign mX5_addSign 3 := ⟨wt 4 (by decide +kernel) rfl, wt 599 (by decide +kernel) rfl, by decide +kernel, by decide +kernel⟩
theorem cvX5_addSign : Cond.instanceMethod yX5_addSign ∈ WT ∧ Cond.selects yX5_addSign.cls yX5_addSign yX5_addSign ∈ WT ∧ vwCl[5]? = some (yX5_addSign.cls, TX5, 11) := ⟨wt 598 (by decide +kernel) rfl, wt_p 17 (by decide +kernel : _ = some (_, 11)), rfl⟩
theorem ceX5_joinToSignAhead : jCe yX5_joinToSignAhead mX5_joinToSignAhead 1 := ⟨wt 4 (by decide +kernel) rfl, wt 620 (by decide +kernel) rfl, by decide +kernel, by decide +kernel⟩
theorem cvX5_joinToSignAhead : Cond.instanceMethod yX5_joinToSignAhead ∈ WT ∧ Cond.selects yX5_joinToSignAhead.cls yX5_joinToSignAhead yX5_joinToSignAhead ∈ WT ∧ vwCl[5]? = some (yX5_joinToSignAhead.cls, TX5, 11) := ⟨wt 619 (by decide +kernel) rfl, wt_p 20 (by decide +kernel : _ = some (_, 11)), rfl⟩
theorem ceX6_placeAt : jCe yX6_placeAt mX6_placeAt 1 := ⟨wt 2 (by decide +kernel) rfl, wt 634 (by decide +kernel) rfl, by decide +kernel, by decide +kernel⟩
theorem cvX6_placeAt : Cond.instanceMethod yX6_placeAt ∈ WT ∧ Cond.selects yX6_placeAt.cls yX6_placeAt yX6_placeAt ∈ WT ∧ vwCl[6]? = some (yX6_placeAt.cls, TX6, 13) := ⟨wt 632 (by decide +kernel) rfl, wt 633 (by decide +kernel) rfl, rfl⟩
theorem ceX6_alterAt : jCe yX6_alterAt mX6_alterAt 1 := ⟨wt 2 (by decide +kernel) rfl, wt 638 (by decide +kernel) rfl, by decide +kernel, by decide +kernel⟩
theorem cvX6_alterAt : Cond.instanceMethod yX6_alterAt ∈ WT ∧ Cond.selects yX6_alterAt.cls yX6_alterAt yX6_alterAt ∈ WT ∧ vwCl[6]? = some (yX6_alterAt.cls, TX6, 13) := ⟨wt 636 (by decide +kernel) rfl, wt 637 (by decide +kernel) rfl, rfl⟩
theorem ceX5_alterToShow : jCe yX5_alterToShow mX5_alterToShow 3 := ⟨wt 4 (by decide +kernel) rfl, wt 642 (by decide +kernel) rfl, by decide +kernel, by decide +kernel⟩
theorem cvX5_alterToShow : Cond.instanceMethod yX5_alterToShow ∈ WT ∧ Cond.selects yX5_alterToShow.cls yX5_alterToShow yX5_alterToShow ∈ WT ∧ vwCl[5]? = some (yX5_alterToShow.cls, TX5, 11) := ⟨wt 641 (by decide +kernel) rfl, wt_p 22 (by decide +kernel : _ = some (_, 11)), rfl⟩
theorem ceX6_writtenPlaceAt : jCe yX6_writtenPlaceAt mX6_writtenPlaceAt 1 := ⟨wt 2 (by decide +kernel) rfl, wt 476 (by decide +kernel) rfl, by decide +kernel, by decide +kernel⟩
theorem cvX6_writtenPlaceAt : Cond.instanceMethod yX6_writtenPlaceAt ∈ WT ∧ Cond.selects yX6_writtenPlaceAt.cls yX6_writtenPlaceAt yX6_writtenPlaceAt ∈ WT ∧ vwCl[6]? = some (yX6_writtenPlaceAt.cls, TX6, 13) := ⟨wt 474 (by decide +kernel) rfl, wt 475 (by decide +kernel) rfl, rfl⟩
theorem ceX6_writtenAlterAt : jCe yX6_writtenAlterAt mX6_writtenAlterAt 1 := ⟨wt 2 (by decide +kernel) rfl, wt 480 (by decide +kernel) rfl, by decide +kernel, by decide +kernel⟩
theorem cvX6_writtenAlterAt : Cond.instanceMethod yX6_writtenAlterAt ∈ WT ∧ Cond.selects yX6_writtenAlterAt.cls yX6_writtenAlterAt yX6_writtenAlterAt ∈ WT ∧ vwCl[6]? = some (yX6_writtenAlterAt.cls, TX6, 13) := ⟨wt 478 (by decide +kernel) rfl, wt 479 (by decide +kernel) rfl, rfl⟩
theorem ceX7_alterByKey : jCe yX7_alterByKey mX7_alterByKey 2 := ⟨wt 16 (by decide +kernel) rfl, wt 645 (by decide +kernel) rfl, by decide +kernel, by decide +kernel⟩
theorem csX7_alterByKey : Cond.static yX7_alterByKey ∈ WT := wt 644 (by decide +kernel) rfl
theorem ceX6_givePitch : jCe yX6_givePitch mX6_givePitch 3 := ⟨wt 2 (by decide +kernel) rfl, wt 880 (by decide +kernel) rfl, by decide +kernel, by decide +kernel⟩
theorem cvX6_givePitch : Cond.instanceMethod yX6_givePitch ∈ WT ∧ Cond.selects yX6_givePitch.cls yX6_givePitch yX6_givePitch ∈ WT ∧ vwCl[6]? = some (yX6_givePitch.cls, TX6, 13) := ⟨wt 878 (by decide +kernel) rfl, wt 879 (by decide +kernel) rfl, rfl⟩
theorem ceX7_plainHeight : jCe yX7_plainHeight mX7_plainHeight 1 := ⟨wt 16 (by decide +kernel) rfl, wt 883 (by decide +kernel) rfl, by decide +kernel, by decide +kernel⟩
theorem csX7_plainHeight : Cond.static yX7_plainHeight ∈ WT := wt 882 (by decide +kernel) rfl
theorem ceX6_writeForInstrument : jCe yX6_writeForInstrument mX6_writeForInstrument 1 := ⟨wt 2 (by decide +kernel) rfl, wt 893 (by decide +kernel) rfl, by decide +kernel, by decide +kernel⟩
theorem cvX6_writeForInstrument : Cond.instanceMethod yX6_writeForInstrument ∈ WT ∧ Cond.selects yX6_writeForInstrument.cls yX6_writeForInstrument yX6_writeForInstrument ∈ WT ∧ vwCl[6]? = some (yX6_writeForInstrument.cls, TX6, 13) := ⟨wt 892 (by decide +kernel) rfl, wt_p 38 (by decide +kernel : _ = some (_, 13)), rfl⟩
theorem ceX7_isPitch : jCe yX7_isPitch mX7_isPitch 2 := ⟨wt 16 (by decide +kernel) rfl, wt 820 (by decide +kernel) rfl, by decide +kernel, by decide +kernel⟩
theorem csX7_isPitch : Cond.static yX7_isPitch ∈ WT := wt 819 (by decide +kernel) rfl
theorem ceJ9_floorDiv_7cf53 : jCe yJ9_floorDiv_7cf53 mJ9_floorDiv_7cf53 2 := ⟨wt 20 (by decide +kernel) rfl, wt 889 (by decide +kernel) rfl, by decide +kernel, by decide +kernel⟩
theorem csJ9_floorDiv_7cf53 : Cond.static yJ9_floorDiv_7cf53 ∈ WT := wt 888 (by decide +kernel) rfl
theorem ceX6_init : jCe yX6_init mX6_init 0 := ⟨wt 2 (by decide +kernel) rfl, wt 36 (by decide +kernel) rfl, by decide +kernel, by decide +kernel⟩
theorem ciX6_init : Cond.instanceMethod yX6_init ∈ WT ∧ yX6_init.name = "<init>" := ⟨wt 35 (by decide +kernel) rfl, rfl⟩
theorem ceX0_init : jCe yX0_init mX0_init 0 := ⟨wt 3 (by decide +kernel) rfl, wt 83 (by decide +kernel) rfl, by decide +kernel, by decide +kernel⟩
theorem ciX0_init : Cond.instanceMethod yX0_init ∈ WT ∧ yX0_init.name = "<init>" := ⟨wt 82 (by decide +kernel) rfl, rfl⟩
theorem ceX5_init : jCe yX5_init mX5_init 0 := ⟨wt 4 (by decide +kernel) rfl, wt 116 (by decide +kernel) rfl, by decide +kernel, by decide +kernel⟩
theorem ciX5_init : Cond.instanceMethod yX5_init ∈ WT ∧ yX5_init.name = "<init>" := ⟨wt 115 (by decide +kernel) rfl, rfl⟩
theorem ceX3_init : jCe yX3_init mX3_init 0 := ⟨wt 5 (by decide +kernel) rfl, wt 157 (by decide +kernel) rfl, by decide +kernel, by decide +kernel⟩
theorem ciX3_init : Cond.instanceMethod yX3_init ∈ WT ∧ yX3_init.name = "<init>" := ⟨wt 156 (by decide +kernel) rfl, rfl⟩
theorem ceX1_init : jCe yX1_init mX1_init 0 := ⟨wt 6 (by decide +kernel) rfl, wt 176 (by decide +kernel) rfl, by decide +kernel, by decide +kernel⟩
theorem ciX1_init : Cond.instanceMethod yX1_init ∈ WT ∧ yX1_init.name = "<init>" := ⟨wt 175 (by decide +kernel) rfl, rfl⟩
theorem ceX2_init : jCe yX2_init mX2_init 0 := ⟨wt 7 (by decide +kernel) rfl, wt 192 (by decide +kernel) rfl, by decide +kernel, by decide +kernel⟩
theorem ciX2_init : Cond.instanceMethod yX2_init ∈ WT ∧ yX2_init.name = "<init>" := ⟨wt 191 (by decide +kernel) rfl, rfl⟩
theorem ceX4_init : jCe yX4_init mX4_init 0 := ⟨wt 8 (by decide +kernel) rfl, wt 223 (by decide +kernel) rfl, by decide +kernel, by decide +kernel⟩
theorem ciX4_init : Cond.instanceMethod yX4_init ∈ WT ∧ yX4_init.name = "<init>" := ⟨wt 222 (by decide +kernel) rfl, rfl⟩
theorem ceX9_partAt : jCe yX9_partAt mX9_partAt 1 := ⟨wt 1 (by decide +kernel) rfl, wt 498 (by decide +kernel) rfl, by decide +kernel, by decide +kernel⟩
theorem cvX9_partAt : Cond.instanceMethod yX9_partAt ∈ WT ∧ Cond.selects yX9_partAt.cls yX9_partAt yX9_partAt ∈ WT ∧ vwCl[7]? = some (yX9_partAt.cls, TX9, 12) := ⟨wt 497 (by decide +kernel) rfl, wt_p 14 (by decide +kernel : _ = some (_, 12)), rfl⟩
theorem ceX9_checkPitch : jCe yX9_checkPitch mX9_checkPitch 2 := ⟨wt 1 (by decide +kernel) rfl, wt 817 (by decide +kernel) rfl, by decide +kernel, by decide +kernel⟩
theorem csX9_checkPitch : Cond.static yX9_checkPitch ∈ WT := wt 816 (by decide +kernel) rfl
theorem ceX9_checkValue : jCe yX9_checkValue mX9_checkValue 1 := ⟨wt 1 (by decide +kernel) rfl, wt 839 (by decide +kernel) rfl, by decide +kernel, by decide +kernel⟩
theorem csX9_checkValue : Cond.static yX9_checkValue ∈ WT := wt 838 (by decide +kernel) rfl
theorem ceX9_checkRoom : jCe yX9_checkRoom mX9_checkRoom 2 := ⟨wt 1 (by decide +kernel) rfl, wt 847 (by decide +kernel) rfl, by decide +kernel, by decide +kernel⟩
theorem cvX9_checkRoom : Cond.instanceMethod yX9_checkRoom ∈ WT ∧ Cond.selects yX9_checkRoom.cls yX9_checkRoom yX9_checkRoom ∈ WT ∧ vwCl[7]? = some (yX9_checkRoom.cls, TX9, 12) := ⟨wt 846 (by decide +kernel) rfl, wt_p 35 (by decide +kernel : _ = some (_, 12)), rfl⟩
theorem ceX9_forgetWhatFollows : jCe yX9_forgetWhatFollows mX9_forgetWhatFollows 0 := ⟨wt 1 (by decide +kernel) rfl, wt 872 (by decide +kernel) rfl, by decide +kernel, by decide +kernel⟩
theorem cvX9_forgetWhatFollows : Cond.instanceMethod yX9_forgetWhatFollows ∈ WT ∧ Cond.selects yX9_forgetWhatFollows.cls yX9_forgetWhatFollows yX9_forgetWhatFollows ∈ WT ∧ vwCl[7]? = some (yX9_forgetWhatFollows.cls, TX9, 12) := ⟨wt 871 (by decide +kernel) rfl, wt_p 37 (by decide +kernel : _ = some (_, 12)), rfl⟩
theorem ceX6_append : jCe yX6_append mX6_append 3 := ⟨wt 2 (by decide +kernel) rfl, wt 876 (by decide +kernel) rfl, by decide +kernel, by decide +kernel⟩
theorem cvX6_append : Cond.instanceMethod yX6_append ∈ WT ∧ Cond.selects yX6_append.cls yX6_append yX6_append ∈ WT ∧ vwCl[6]? = some (yX6_append.cls, TX6, 13) := ⟨wt 874 (by decide +kernel) rfl, wt 875 (by decide +kernel) rfl, rfl⟩
theorem ceX6_removeLast : jCe yX6_removeLast mX6_removeLast 0 := ⟨wt 2 (by decide +kernel) rfl, wt 913 (by decide +kernel) rfl, by decide +kernel, by decide +kernel⟩
theorem cvX6_removeLast : Cond.instanceMethod yX6_removeLast ∈ WT ∧ Cond.selects yX6_removeLast.cls yX6_removeLast yX6_removeLast ∈ WT ∧ vwCl[6]? = some (yX6_removeLast.cls, TX6, 13) := ⟨wt 911 (by decide +kernel) rfl, wt 912 (by decide +kernel) rfl, rfl⟩
theorem ceX9_partWith : jCe yX9_partWith mX9_partWith 2 := ⟨wt 1 (by decide +kernel) rfl, wt 924 (by decide +kernel) rfl, by decide +kernel, by decide +kernel⟩
theorem cvX9_partWith : Cond.instanceMethod yX9_partWith ∈ WT ∧ Cond.selects yX9_partWith.cls yX9_partWith yX9_partWith ∈ WT ∧ vwCl[7]? = some (yX9_partWith.cls, TX9, 12) := ⟨wt 923 (by decide +kernel) rfl, wt_p 39 (by decide +kernel : _ = some (_, 12)), rfl⟩
theorem ceX9_checkNote : jCe yX9_checkNote mX9_checkNote 2 := ⟨wt 1 (by decide +kernel) rfl, wt 929 (by decide +kernel) rfl, by decide +kernel, by decide +kernel⟩
theorem csX9_checkNote : Cond.static yX9_checkNote ∈ WT := wt 928 (by decide +kernel) rfl
theorem ceX9_checkBar : jCe yX9_checkBar mX9_checkBar 1 := ⟨wt 1 (by decide +kernel) rfl, wt 569 (by decide +kernel) rfl, by decide +kernel, by decide +kernel⟩
theorem csX9_checkBar : Cond.static yX9_checkBar ∈ WT := wt 568 (by decide +kernel) rfl
theorem ceX9_checkKey : jCe yX9_checkKey mX9_checkKey 1 := ⟨wt 1 (by decide +kernel) rfl, wt 951 (by decide +kernel) rfl, by decide +kernel, by decide +kernel⟩
theorem csX9_checkKey : Cond.static yX9_checkKey ∈ WT := wt 950 (by decide +kernel) rfl
theorem ceX0_changeKey : jCe yX0_changeKey mX0_changeKey 2 := ⟨wt 3 (by decide +kernel) rfl, wt 956 (by decide +kernel) rfl, by decide +kernel, by decide +kernel⟩
theorem cvX0_changeKey : Cond.instanceMethod yX0_changeKey ∈ WT ∧ Cond.selects yX0_changeKey.cls yX0_changeKey yX0_changeKey ∈ WT ∧ vwCl[0]? = some (yX0_changeKey.cls, TX0, 5) := ⟨wt 954 (by decide +kernel) rfl, wt 955 (by decide +kernel) rfl, rfl⟩
theorem ceX6_changeRange : jCe yX6_changeRange mX6_changeRange 2 := ⟨wt 2 (by decide +kernel) rfl, wt 968 (by decide +kernel) rfl, by decide +kernel, by decide +kernel⟩
theorem cvX6_changeRange : Cond.instanceMethod yX6_changeRange ∈ WT ∧ Cond.selects yX6_changeRange.cls yX6_changeRange yX6_changeRange ∈ WT ∧ vwCl[6]? = some (yX6_changeRange.cls, TX6, 13) := ⟨wt 966 (by decide +kernel) rfl, wt 967 (by decide +kernel) rfl, rfl⟩
theorem ceX6_notesOutOfRange : jCe yX6_notesOutOfRange mX6_notesOutOfRange 0 := ⟨wt 2 (by decide +kernel) rfl, wt 972 (by decide +kernel) rfl, by decide +kernel, by decide +kernel⟩
theorem cvX6_notesOutOfRange : Cond.instanceMethod yX6_notesOutOfRange ∈ WT ∧ Cond.selects yX6_notesOutOfRange.cls yX6_notesOutOfRange yX6_notesOutOfRange ∈ WT ∧ vwCl[6]? = some (yX6_notesOutOfRange.cls, TX6, 13) := ⟨wt 970 (by decide +kernel) rfl, wt 971 (by decide +kernel) rfl, rfl⟩
theorem ceX6_changeShift : jCe yX6_changeShift mX6_changeShift 2 := ⟨wt 2 (by decide +kernel) rfl, wt 985 (by decide +kernel) rfl, by decide +kernel, by decide +kernel⟩
theorem cvX6_changeShift : Cond.instanceMethod yX6_changeShift ∈ WT ∧ Cond.selects yX6_changeShift.cls yX6_changeShift yX6_changeShift ∈ WT ∧ vwCl[6]? = some (yX6_changeShift.cls, TX6, 13) := ⟨wt 983 (by decide +kernel) rfl, wt 984 (by decide +kernel) rfl, rfl⟩
theorem ceX6_notesWithoutWrittenPitch : jCe yX6_notesWithoutWrittenPitch mX6_notesWithoutWrittenPitch 0 := ⟨wt 2 (by decide +kernel) rfl, wt 989 (by decide +kernel) rfl, by decide +kernel, by decide +kernel⟩
theorem cvX6_notesWithoutWrittenPitch : Cond.instanceMethod yX6_notesWithoutWrittenPitch ∈ WT ∧ Cond.selects yX6_notesWithoutWrittenPitch.cls yX6_notesWithoutWrittenPitch yX6_notesWithoutWrittenPitch ∈ WT ∧ vwCl[6]? = some (yX6_notesWithoutWrittenPitch.cls, TX6, 13) := ⟨wt 987 (by decide +kernel) rfl, wt 988 (by decide +kernel) rfl, rfl⟩
theorem ceX9_measureAt : jCe yX9_measureAt mX9_measureAt 2 := ⟨wt 1 (by decide +kernel) rfl, wt 494 (by decide +kernel) rfl, by decide +kernel, by decide +kernel⟩
theorem cvX9_measureAt : Cond.instanceMethod yX9_measureAt ∈ WT ∧ Cond.selects yX9_measureAt.cls yX9_measureAt yX9_measureAt ∈ WT ∧ vwCl[7]? = some (yX9_measureAt.cls, TX9, 12) := ⟨wt 493 (by decide +kernel) rfl, wt_p 13 (by decide +kernel : _ = some (_, 12)), rfl⟩
theorem ceX5_size : jCe yX5_size mX5_size 0 := ⟨wt 4 (by decide +kernel) rfl, wt 661 (by decide +kernel) rfl, by decide +kernel, by decide +kernel⟩
theorem cvX5_size : Cond.instanceMethod yX5_size ∈ WT ∧ Cond.selects yX5_size.cls yX5_size yX5_size ∈ WT ∧ vwCl[5]? = some (yX5_size.cls, TX5, 11) := ⟨wt 659 (by decide +kernel) rfl, wt 660 (by decide +kernel) rfl, rfl⟩
theorem ceX9_measureWith : jCe yX9_measureWith mX9_measureWith 3 := ⟨wt 1 (by decide +kernel) rfl, wt 1079 (by decide +kernel) rfl, by decide +kernel, by decide +kernel⟩
theorem cvX9_measureWith : Cond.instanceMethod yX9_measureWith ∈ WT ∧ Cond.selects yX9_measureWith.cls yX9_measureWith yX9_measureWith ∈ WT ∧ vwCl[7]? = some (yX9_measureWith.cls, TX9, 12) := ⟨wt 1078 (by decide +kernel) rfl, wt_p 40 (by decide +kernel : _ = some (_, 12)), rfl⟩
theorem ceX5_eventAt : jCe yX5_eventAt mX5_eventAt 1 := ⟨wt 4 (by decide +kernel) rfl, wt 682 (by decide +kernel) rfl, by decide +kernel, by decide +kernel⟩
theorem cvX5_eventAt : Cond.instanceMethod yX5_eventAt ∈ WT ∧ Cond.selects yX5_eventAt.cls yX5_eventAt yX5_eventAt ∈ WT ∧ vwCl[5]? = some (yX5_eventAt.cls, TX5, 11) := ⟨wt 680 (by decide +kernel) rfl, wt 681 (by decide +kernel) rfl, rfl⟩
theorem ceX5_lengthAt : jCe yX5_lengthAt mX5_lengthAt 1 := ⟨wt 4 (by decide +kernel) rfl, wt 686 (by decide +kernel) rfl, by decide +kernel, by decide +kernel⟩
theorem cvX5_lengthAt : Cond.instanceMethod yX5_lengthAt ∈ WT ∧ Cond.selects yX5_lengthAt.cls yX5_lengthAt yX5_lengthAt ∈ WT ∧ vwCl[5]? = some (yX5_lengthAt.cls, TX5, 11) := ⟨wt 684 (by decide +kernel) rfl, wt 685 (by decide +kernel) rfl, rfl⟩
theorem ceX5_tiedAt : jCe yX5_tiedAt mX5_tiedAt 1 := ⟨wt 4 (by decide +kernel) rfl, wt 690 (by decide +kernel) rfl, by decide +kernel, by decide +kernel⟩
theorem cvX5_tiedAt : Cond.instanceMethod yX5_tiedAt ∈ WT ∧ Cond.selects yX5_tiedAt.cls yX5_tiedAt yX5_tiedAt ∈ WT ∧ vwCl[5]? = some (yX5_tiedAt.cls, TX5, 11) := ⟨wt 688 (by decide +kernel) rfl, wt 689 (by decide +kernel) rfl, rfl⟩
theorem ceX5_shownAt : jCe yX5_shownAt mX5_shownAt 1 := ⟨wt 4 (by decide +kernel) rfl, wt 694 (by decide +kernel) rfl, by decide +kernel, by decide +kernel⟩
theorem cvX5_shownAt : Cond.instanceMethod yX5_shownAt ∈ WT ∧ Cond.selects yX5_shownAt.cls yX5_shownAt yX5_shownAt ∈ WT ∧ vwCl[5]? = some (yX5_shownAt.cls, TX5, 11) := ⟨wt 692 (by decide +kernel) rfl, wt 693 (by decide +kernel) rfl, rfl⟩
theorem ceX5_shownAsWrittenAt : jCe yX5_shownAsWrittenAt mX5_shownAsWrittenAt 1 := ⟨wt 4 (by decide +kernel) rfl, wt 698 (by decide +kernel) rfl, by decide +kernel, by decide +kernel⟩
theorem cvX5_shownAsWrittenAt : Cond.instanceMethod yX5_shownAsWrittenAt ∈ WT ∧ Cond.selects yX5_shownAsWrittenAt.cls yX5_shownAsWrittenAt yX5_shownAsWrittenAt ∈ WT ∧ vwCl[5]? = some (yX5_shownAsWrittenAt.cls, TX5, 11) := ⟨wt 696 (by decide +kernel) rfl, wt 697 (by decide +kernel) rfl, rfl⟩
theorem ceX5_beamTotal : jCe yX5_beamTotal mX5_beamTotal 0 := ⟨wt 4 (by decide +kernel) rfl, wt 665 (by decide +kernel) rfl, by decide +kernel, by decide +kernel⟩
theorem cvX5_beamTotal : Cond.instanceMethod yX5_beamTotal ∈ WT ∧ Cond.selects yX5_beamTotal.cls yX5_beamTotal yX5_beamTotal ∈ WT ∧ vwCl[5]? = some (yX5_beamTotal.cls, TX5, 11) := ⟨wt 663 (by decide +kernel) rfl, wt 664 (by decide +kernel) rfl, rfl⟩
theorem ceX5_beamAt : jCe yX5_beamAt mX5_beamAt 1 := ⟨wt 4 (by decide +kernel) rfl, wt 702 (by decide +kernel) rfl, by decide +kernel, by decide +kernel⟩
theorem cvX5_beamAt : Cond.instanceMethod yX5_beamAt ∈ WT ∧ Cond.selects yX5_beamAt.cls yX5_beamAt yX5_beamAt ∈ WT ∧ vwCl[5]? = some (yX5_beamAt.cls, TX5, 11) := ⟨wt 700 (by decide +kernel) rfl, wt 701 (by decide +kernel) rfl, rfl⟩
theorem ceX6_end : jCe yX6_end mX6_end 0 := ⟨wt 2 (by decide +kernel) rfl, wt 404 (by decide +kernel) rfl, by decide +kernel, by decide +kernel⟩
theorem cvX6_end : Cond.instanceMethod yX6_end ∈ WT ∧ Cond.selects yX6_end.cls yX6_end yX6_end ∈ WT ∧ vwCl[6]? = some (yX6_end.cls, TX6, 13) := ⟨wt 402 (by decide +kernel) rfl, wt 403 (by decide +kernel) rfl, rfl⟩
theorem ceX0_ticksBehind : jCe yX0_ticksBehind mX0_ticksBehind 2 := ⟨wt 3 (by decide +kernel) rfl, wt 669 (by decide +kernel) rfl, by decide +kernel, by decide +kernel⟩
theorem cvX0_ticksBehind : Cond.instanceMethod yX0_ticksBehind ∈ WT ∧ Cond.selects yX0_ticksBehind.cls yX0_ticksBehind yX0_ticksBehind ∈ WT ∧ vwCl[0]? = some (yX0_ticksBehind.cls, TX0, 5) := ⟨wt 667 (by decide +kernel) rfl, wt 668 (by decide +kernel) rfl, rfl⟩
theorem ceX9_hear : jCe yX9_hear mX9_hear 0 := ⟨wt 1 (by decide +kernel) rfl, wt 285 (by decide +kernel) rfl, by decide +kernel, by decide +kernel⟩
theorem cvX9_hear : Cond.instanceMethod yX9_hear ∈ WT ∧ Cond.selects yX9_hear.cls yX9_hear yX9_hear ∈ WT ∧ vwCl[7]? = some (yX9_hear.cls, TX9, 12) := ⟨wt 284 (by decide +kernel) rfl, wt_p 0 (by decide +kernel : _ = some (_, 12)), rfl⟩
theorem ceX9_checkMoment : jCe yX9_checkMoment mX9_checkMoment 1 := ⟨wt 1 (by decide +kernel) rfl, wt 1141 (by decide +kernel) rfl, by decide +kernel, by decide +kernel⟩
theorem cvX9_checkMoment : Cond.instanceMethod yX9_checkMoment ∈ WT ∧ Cond.selects yX9_checkMoment.cls yX9_checkMoment yX9_checkMoment ∈ WT ∧ vwCl[7]? = some (yX9_checkMoment.cls, TX9, 12) := ⟨wt 1140 (by decide +kernel) rfl, wt_p 41 (by decide +kernel : _ = some (_, 12)), rfl⟩
theorem ceX9_chordAt : jCe yX9_chordAt mX9_chordAt 1 := ⟨wt 1 (by decide +kernel) rfl, wt 712 (by decide +kernel) rfl, by decide +kernel, by decide +kernel⟩
theorem cvX9_chordAt : Cond.instanceMethod yX9_chordAt ∈ WT ∧ Cond.selects yX9_chordAt.cls yX9_chordAt yX9_chordAt ∈ WT ∧ vwCl[7]? = some (yX9_chordAt.cls, TX9, 12) := ⟨wt 711 (by decide +kernel) rfl, wt_p 26 (by decide +kernel : _ = some (_, 12)), rfl⟩
theorem ceX1_rootClass : jCe yX1_rootClass mX1_rootClass 0 := ⟨wt 6 (by decide +kernel) rfl, wt 745 (by decide +kernel) rfl, by decide +kernel, by decide +kernel⟩
theorem cvX1_rootClass : Cond.instanceMethod yX1_rootClass ∈ WT ∧ Cond.selects yX1_rootClass.cls yX1_rootClass yX1_rootClass ∈ WT ∧ vwCl[1]? = some (yX1_rootClass.cls, TX1, 3) := ⟨wt 743 (by decide +kernel) rfl, wt 744 (by decide +kernel) rfl, rfl⟩
theorem ceX1_kindNumber : jCe yX1_kindNumber mX1_kindNumber 0 := ⟨wt 6 (by decide +kernel) rfl, wt 749 (by decide +kernel) rfl, by decide +kernel, by decide +kernel⟩
theorem cvX1_kindNumber : Cond.instanceMethod yX1_kindNumber ∈ WT ∧ Cond.selects yX1_kindNumber.cls yX1_kindNumber yX1_kindNumber ∈ WT ∧ vwCl[1]? = some (yX1_kindNumber.cls, TX1, 3) := ⟨wt 747 (by decide +kernel) rfl, wt 748 (by decide +kernel) rfl, rfl⟩
theorem ceX1_lowestTone : jCe yX1_lowestTone mX1_lowestTone 0 := ⟨wt 6 (by decide +kernel) rfl, wt 753 (by decide +kernel) rfl, by decide +kernel, by decide +kernel⟩
theorem cvX1_lowestTone : Cond.instanceMethod yX1_lowestTone ∈ WT ∧ Cond.selects yX1_lowestTone.cls yX1_lowestTone yX1_lowestTone ∈ WT ∧ vwCl[1]? = some (yX1_lowestTone.cls, TX1, 3) := ⟨wt 751 (by decide +kernel) rfl, wt 752 (by decide +kernel) rfl, rfl⟩
theorem ceX9_searchFaults : jCe yX9_searchFaults mX9_searchFaults 0 := ⟨wt 1 (by decide +kernel) rfl, wt 328 (by decide +kernel) rfl, by decide +kernel, by decide +kernel⟩
theorem cvX9_searchFaults : Cond.instanceMethod yX9_searchFaults ∈ WT ∧ Cond.selects yX9_searchFaults.cls yX9_searchFaults yX9_searchFaults ∈ WT ∧ vwCl[7]? = some (yX9_searchFaults.cls, TX9, 12) := ⟨wt 327 (by decide +kernel) rfl, wt_p 3 (by decide +kernel : _ = some (_, 12)), rfl⟩
theorem ceX2_size : jCe yX2_size mX2_size 0 := ⟨wt 7 (by decide +kernel) rfl, wt 392 (by decide +kernel) rfl, by decide +kernel, by decide +kernel⟩
theorem cvX2_size : Cond.instanceMethod yX2_size ∈ WT ∧ Cond.selects yX2_size.cls yX2_size yX2_size ∈ WT ∧ vwCl[2]? = some (yX2_size.cls, TX2, 8) := ⟨wt 390 (by decide +kernel) rfl, wt 391 (by decide +kernel) rfl, rfl⟩
theorem ceX9_checkFault : jCe yX9_checkFault mX9_checkFault 1 := ⟨wt 1 (by decide +kernel) rfl, wt 1182 (by decide +kernel) rfl, by decide +kernel, by decide +kernel⟩
theorem cvX9_checkFault : Cond.instanceMethod yX9_checkFault ∈ WT ∧ Cond.selects yX9_checkFault.cls yX9_checkFault yX9_checkFault ∈ WT ∧ vwCl[7]? = some (yX9_checkFault.cls, TX9, 12) := ⟨wt 1181 (by decide +kernel) rfl, wt_p 42 (by decide +kernel : _ = some (_, 12)), rfl⟩
theorem ceX2_kindAt : jCe yX2_kindAt mX2_kindAt 1 := ⟨wt 7 (by decide +kernel) rfl, wt 761 (by decide +kernel) rfl, by decide +kernel, by decide +kernel⟩
theorem cvX2_kindAt : Cond.instanceMethod yX2_kindAt ∈ WT ∧ Cond.selects yX2_kindAt.cls yX2_kindAt yX2_kindAt ∈ WT ∧ vwCl[2]? = some (yX2_kindAt.cls, TX2, 8) := ⟨wt 759 (by decide +kernel) rfl, wt 760 (by decide +kernel) rfl, rfl⟩
theorem ceX2_tickAt : jCe yX2_tickAt mX2_tickAt 1 := ⟨wt 7 (by decide +kernel) rfl, wt 769 (by decide +kernel) rfl, by decide +kernel, by decide +kernel⟩
theorem cvX2_tickAt : Cond.instanceMethod yX2_tickAt ∈ WT ∧ Cond.selects yX2_tickAt.cls yX2_tickAt yX2_tickAt ∈ WT ∧ vwCl[2]? = some (yX2_tickAt.cls, TX2, 8) := ⟨wt 767 (by decide +kernel) rfl, wt 768 (by decide +kernel) rfl, rfl⟩
theorem ceX2_partsAt : jCe yX2_partsAt mX2_partsAt 1 := ⟨wt 7 (by decide +kernel) rfl, wt 773 (by decide +kernel) rfl, by decide +kernel, by decide +kernel⟩
theorem cvX2_partsAt : Cond.instanceMethod yX2_partsAt ∈ WT ∧ Cond.selects yX2_partsAt.cls yX2_partsAt yX2_partsAt ∈ WT ∧ vwCl[2]? = some (yX2_partsAt.cls, TX2, 8) := ⟨wt 771 (by decide +kernel) rfl, wt 772 (by decide +kernel) rfl, rfl⟩
theorem ceX2_search : jCe yX2_search mX2_search 2 := ⟨wt 7 (by decide +kernel) rfl, wt 332 (by decide +kernel) rfl, by decide +kernel, by decide +kernel⟩
theorem cvX2_search : Cond.instanceMethod yX2_search ∈ WT ∧ Cond.selects yX2_search.cls yX2_search yX2_search ∈ WT ∧ vwCl[2]? = some (yX2_search.cls, TX2, 8) := ⟨wt 330 (by decide +kernel) rfl, wt 331 (by decide +kernel) rfl, rfl⟩
theorem ceX9_lastEnd : jCe yX9_lastEnd mX9_lastEnd 0 := ⟨wt 1 (by decide +kernel) rfl, wt 400 (by decide +kernel) rfl, by decide +kernel, by decide +kernel⟩
theorem cvX9_lastEnd : Cond.instanceMethod yX9_lastEnd ∈ WT ∧ Cond.selects yX9_lastEnd.cls yX9_lastEnd yX9_lastEnd ∈ WT ∧ vwCl[7]? = some (yX9_lastEnd.cls, TX9, 12) := ⟨wt 399 (by decide +kernel) rfl, wt_p 9 (by decide +kernel : _ = some (_, 12)), rfl⟩
theorem ceX0_barsUpTo : jCe yX0_barsUpTo mX0_barsUpTo 1 := ⟨wt 3 (by decide +kernel) rfl, wt 411 (by decide +kernel) rfl, by decide +kernel, by decide +kernel⟩
theorem cvX0_barsUpTo : Cond.instanceMethod yX0_barsUpTo ∈ WT ∧ Cond.selects yX0_barsUpTo.cls yX0_barsUpTo yX0_barsUpTo ∈ WT ∧ vwCl[0]? = some (yX0_barsUpTo.cls, TX0, 5) := ⟨wt 409 (by decide +kernel) rfl, wt 410 (by decide +kernel) rfl, rfl⟩
theorem ceX9_measureWidths : jCe yX9_measureWidths mX9_measureWidths 0 := ⟨wt 1 (by decide +kernel) rfl, wt 437 (by decide +kernel) rfl, by decide +kernel, by decide +kernel⟩
theorem cvX9_measureWidths : Cond.instanceMethod yX9_measureWidths ∈ WT ∧ Cond.selects yX9_measureWidths.cls yX9_measureWidths yX9_measureWidths ∈ WT ∧ vwCl[7]? = some (yX9_measureWidths.cls, TX9, 12) := ⟨wt 436 (by decide +kernel) rfl, wt_p 10 (by decide +kernel : _ = some (_, 12)), rfl⟩
theorem ceX4_widthAt : jCe yX4_widthAt mX4_widthAt 1 := ⟨wt 8 (by decide +kernel) rfl, wt 490 (by decide +kernel) rfl, by decide +kernel, by decide +kernel⟩
theorem cvX4_widthAt : Cond.instanceMethod yX4_widthAt ∈ WT ∧ Cond.selects yX4_widthAt.cls yX4_widthAt yX4_widthAt ∈ WT ∧ vwCl[4]? = some (yX4_widthAt.cls, TX4, 5) := ⟨wt 488 (by decide +kernel) rfl, wt 489 (by decide +kernel) rfl, rfl⟩
theorem ceX9_checkWidth : jCe yX9_checkWidth mX9_checkWidth 1 := ⟨wt 1 (by decide +kernel) rfl, wt 1224 (by decide +kernel) rfl, by decide +kernel, by decide +kernel⟩
theorem csX9_checkWidth : Cond.static yX9_checkWidth ∈ WT := wt 1223 (by decide +kernel) rfl
theorem ceX9_breakLines : jCe yX9_breakLines mX9_breakLines 1 := ⟨wt 1 (by decide +kernel) rfl, wt 782 (by decide +kernel) rfl, by decide +kernel, by decide +kernel⟩
theorem cvX9_breakLines : Cond.instanceMethod yX9_breakLines ∈ WT ∧ Cond.selects yX9_breakLines.cls yX9_breakLines yX9_breakLines ∈ WT ∧ vwCl[7]? = some (yX9_breakLines.cls, TX9, 12) := ⟨wt 781 (by decide +kernel) rfl, wt_p 32 (by decide +kernel : _ = some (_, 12)), rfl⟩
theorem ceX4_size : jCe yX4_size mX4_size 0 := ⟨wt 8 (by decide +kernel) rfl, wt 800 (by decide +kernel) rfl, by decide +kernel, by decide +kernel⟩
theorem cvX4_size : Cond.instanceMethod yX4_size ∈ WT ∧ Cond.selects yX4_size.cls yX4_size yX4_size ∈ WT ∧ vwCl[4]? = some (yX4_size.cls, TX4, 5) := ⟨wt 798 (by decide +kernel) rfl, wt 799 (by decide +kernel) rfl, rfl⟩
theorem ceX4_lineAt : jCe yX4_lineAt mX4_lineAt 1 := ⟨wt 8 (by decide +kernel) rfl, wt 1236 (by decide +kernel) rfl, by decide +kernel, by decide +kernel⟩
theorem cvX4_lineAt : Cond.instanceMethod yX4_lineAt ∈ WT ∧ Cond.selects yX4_lineAt.cls yX4_lineAt yX4_lineAt ∈ WT ∧ vwCl[4]? = some (yX4_lineAt.cls, TX4, 5) := ⟨wt 1234 (by decide +kernel) rfl, wt 1235 (by decide +kernel) rfl, rfl⟩
theorem ceX4_leastCost : jCe yX4_leastCost mX4_leastCost 0 := ⟨wt 8 (by decide +kernel) rfl, wt 804 (by decide +kernel) rfl, by decide +kernel, by decide +kernel⟩
theorem cvX4_leastCost : Cond.instanceMethod yX4_leastCost ∈ WT ∧ Cond.selects yX4_leastCost.cls yX4_leastCost yX4_leastCost ∈ WT ∧ vwCl[4]? = some (yX4_leastCost.cls, TX4, 5) := ⟨wt 802 (by decide +kernel) rfl, wt 803 (by decide +kernel) rfl, rfl⟩
theorem ceX6_sumOfHeights : jCe yX6_sumOfHeights mX6_sumOfHeights 0 := ⟨wt 2 (by decide +kernel) rfl, wt 423 (by decide +kernel) rfl, by decide +kernel, by decide +kernel⟩
theorem cvX6_sumOfHeights : Cond.instanceMethod yX6_sumOfHeights ∈ WT ∧ Cond.selects yX6_sumOfHeights.cls yX6_sumOfHeights yX6_sumOfHeights ∈ WT ∧ vwCl[6]? = some (yX6_sumOfHeights.cls, TX6, 13) := ⟨wt 421 (by decide +kernel) rfl, wt 422 (by decide +kernel) rfl, rfl⟩
theorem ceX6_notes : jCe yX6_notes mX6_notes 0 := ⟨wt 2 (by decide +kernel) rfl, wt 429 (by decide +kernel) rfl, by decide +kernel, by decide +kernel⟩
theorem cvX6_notes : Cond.instanceMethod yX6_notes ∈ WT ∧ Cond.selects yX6_notes.cls yX6_notes yX6_notes ∈ WT ∧ vwCl[6]? = some (yX6_notes.cls, TX6, 13) := ⟨wt 427 (by decide +kernel) rfl, wt 428 (by decide +kernel) rfl, rfl⟩
theorem ceX9_mixPart : jCe yX9_mixPart mX9_mixPart 2 := ⟨wt 1 (by decide +kernel) rfl, wt 461 (by decide +kernel) rfl, by decide +kernel, by decide +kernel⟩
theorem cvX9_mixPart : Cond.instanceMethod yX9_mixPart ∈ WT ∧ Cond.selects yX9_mixPart.cls yX9_mixPart yX9_mixPart ∈ WT ∧ vwCl[7]? = some (yX9_mixPart.cls, TX9, 12) := ⟨wt 460 (by decide +kernel) rfl, wt_p 11 (by decide +kernel : _ = some (_, 12)), rfl⟩
theorem ceX9_mixBar : jCe yX9_mixBar mX9_mixBar 2 := ⟨wt 1 (by decide +kernel) rfl, wt 484 (by decide +kernel) rfl, by decide +kernel, by decide +kernel⟩
theorem cvX9_mixBar : Cond.instanceMethod yX9_mixBar ∈ WT ∧ Cond.selects yX9_mixBar.cls yX9_mixBar yX9_mixBar ∈ WT ∧ vwCl[7]? = some (yX9_mixBar.cls, TX9, 12) := ⟨wt 483 (by decide +kernel) rfl, wt_p 12 (by decide +kernel : _ = some (_, 12)), rfl⟩
theorem ceX9_mixMoments : jCe yX9_mixMoments mX9_mixMoments 1 := ⟨wt 1 (by decide +kernel) rfl, wt 706 (by decide +kernel) rfl, by decide +kernel, by decide +kernel⟩
theorem cvX9_mixMoments : Cond.instanceMethod yX9_mixMoments ∈ WT ∧ Cond.selects yX9_mixMoments.cls yX9_mixMoments yX9_mixMoments ∈ WT ∧ vwCl[7]? = some (yX9_mixMoments.cls, TX9, 12) := ⟨wt 705 (by decide +kernel) rfl, wt_p 25 (by decide +kernel : _ = some (_, 12)), rfl⟩
theorem ceX9_mixFaults : jCe yX9_mixFaults mX9_mixFaults 1 := ⟨wt 1 (by decide +kernel) rfl, wt 757 (by decide +kernel) rfl, by decide +kernel, by decide +kernel⟩
theorem cvX9_mixFaults : Cond.instanceMethod yX9_mixFaults ∈ WT ∧ Cond.selects yX9_mixFaults.cls yX9_mixFaults yX9_mixFaults ∈ WT ∧ vwCl[7]? = some (yX9_mixFaults.cls, TX9, 12) := ⟨wt 756 (by decide +kernel) rfl, wt_p 30 (by decide +kernel : _ = some (_, 12)), rfl⟩
theorem ceX9_bars : jCe yX9_bars mX9_bars 0 := ⟨wt 1 (by decide +kernel) rfl, wt 396 (by decide +kernel) rfl, by decide +kernel, by decide +kernel⟩
theorem cvX9_bars : Cond.instanceMethod yX9_bars ∈ WT ∧ Cond.selects yX9_bars.cls yX9_bars yX9_bars ∈ WT ∧ vwCl[7]? = some (yX9_bars.cls, TX9, 12) := ⟨wt 394 (by decide +kernel) rfl, wt 395 (by decide +kernel) rfl, rfl⟩
theorem ceX9_mix : jCe yX9_mix mX9_mix 2 := ⟨wt 1 (by decide +kernel) rfl, wt 468 (by decide +kernel) rfl, by decide +kernel, by decide +kernel⟩
theorem csX9_mix : Cond.static yX9_mix ∈ WT := wt 467 (by decide +kernel) rfl
theorem ceX9_mixLines : jCe yX9_mixLines mX9_mixLines 2 := ⟨wt 1 (by decide +kernel) rfl, wt 778 (by decide +kernel) rfl, by decide +kernel, by decide +kernel⟩
theorem cvX9_mixLines : Cond.instanceMethod yX9_mixLines ∈ WT ∧ Cond.selects yX9_mixLines.cls yX9_mixLines yX9_mixLines ∈ WT ∧ vwCl[7]? = some (yX9_mixLines.cls, TX9, 12) := ⟨wt 777 (by decide +kernel) rfl, wt_p 31 (by decide +kernel : _ = some (_, 12)), rfl⟩
theorem ceX9_mixSigns : jCe yX9_mixSigns mX9_mixSigns 2 := ⟨wt 1 (by decide +kernel) rfl, wt 678 (by decide +kernel) rfl, by decide +kernel, by decide +kernel⟩
theorem cvX9_mixSigns : Cond.instanceMethod yX9_mixSigns ∈ WT ∧ Cond.selects yX9_mixSigns.cls yX9_mixSigns yX9_mixSigns ∈ WT ∧ vwCl[7]? = some (yX9_mixSigns.cls, TX9, 12) := ⟨wt 677 (by decide +kernel) rfl, wt_p 24 (by decide +kernel : _ = some (_, 12)), rfl⟩
theorem ceX3_listen : jCe yX3_listen mX3_listen 1 := ⟨wt 5 (by decide +kernel) rfl, wt 289 (by decide +kernel) rfl, by decide +kernel, by decide +kernel⟩
theorem cvX3_listen : Cond.instanceMethod yX3_listen ∈ WT ∧ Cond.selects yX3_listen.cls yX3_listen yX3_listen ∈ WT ∧ vwCl[3]? = some (yX3_listen.cls, TX3, 4) := ⟨wt 287 (by decide +kernel) rfl, wt 288 (by decide +kernel) rfl, rfl⟩
theorem ceX4_measureWidths : jCe yX4_measureWidths mX4_measureWidths 2 := ⟨wt 8 (by decide +kernel) rfl, wt 441 (by decide +kernel) rfl, by decide +kernel, by decide +kernel⟩
theorem cvX4_measureWidths : Cond.instanceMethod yX4_measureWidths ∈ WT ∧ Cond.selects yX4_measureWidths.cls yX4_measureWidths yX4_measureWidths ∈ WT ∧ vwCl[4]? = some (yX4_measureWidths.cls, TX4, 5) := ⟨wt 439 (by decide +kernel) rfl, wt 440 (by decide +kernel) rfl, rfl⟩
theorem ceX4_breakUp : jCe yX4_breakUp mX4_breakUp 2 := ⟨wt 8 (by decide +kernel) rfl, wt 786 (by decide +kernel) rfl, by decide +kernel, by decide +kernel⟩
theorem cvX4_breakUp : Cond.instanceMethod yX4_breakUp ∈ WT ∧ Cond.selects yX4_breakUp.cls yX4_breakUp yX4_breakUp ∈ WT ∧ vwCl[4]? = some (yX4_breakUp.cls, TX4, 5) := ⟨wt 784 (by decide +kernel) rfl, wt 785 (by decide +kernel) rfl, rfl⟩
theorem ceX5_write : jCe yX5_write mX5_write 3 := ⟨wt 4 (by decide +kernel) rfl, wt 574 (by decide +kernel) rfl, by decide +kernel, by decide +kernel⟩
theorem cvX5_write : Cond.instanceMethod yX5_write ∈ WT ∧ Cond.selects yX5_write.cls yX5_write yX5_write ∈ WT ∧ vwCl[5]? = some (yX5_write.cls, TX5, 11) := ⟨wt 572 (by decide +kernel) rfl, wt 573 (by decide +kernel) rfl, rfl⟩
theorem ceX1_tell : jCe yX1_tell mX1_tell 3 := ⟨wt 6 (by decide +kernel) rfl, wt 716 (by decide +kernel) rfl, by decide +kernel, by decide +kernel⟩
theorem cvX1_tell : Cond.instanceMethod yX1_tell ∈ WT ∧ Cond.selects yX1_tell.cls yX1_tell yX1_tell ∈ WT ∧ vwCl[1]? = some (yX1_tell.cls, TX1, 3) := ⟨wt 714 (by decide +kernel) rfl, wt 715 (by decide +kernel) rfl, rfl⟩
theorem ceX9_allEvents : jCe yX9_allEvents mX9_allEvents 0 := ⟨wt 1 (by decide +kernel) rfl, wt 851 (by decide +kernel) rfl, by decide +kernel, by decide +kernel⟩
theorem cvX9_allEvents : Cond.instanceMethod yX9_allEvents ∈ WT ∧ Cond.selects yX9_allEvents.cls yX9_allEvents yX9_allEvents ∈ WT ∧ vwCl[7]? = some (yX9_allEvents.cls, TX9, 12) := ⟨wt 850 (by decide +kernel) rfl, wt_p 36 (by decide +kernel : _ = some (_, 12)), rfl⟩
theorem ceX8_isValue : jCe yX8_isValue mX8_isValue 1 := ⟨wt 18 (by decide +kernel) rfl, wt 842 (by decide +kernel) rfl, by decide +kernel, by decide +kernel⟩
theorem csX8_isValue : Cond.static yX8_isValue ∈ WT := wt 841 (by decide +kernel) rfl
theorem ceX10_endOf : jCe yX10_endOf mX10_endOf 1 := ⟨wt 10 (by decide +kernel) rfl, wt 1426 (by decide +kernel) rfl, by decide +kernel, by decide +kernel⟩
theorem cvX10_endOf : Cond.instanceMethod yX10_endOf ∈ WT ∧ Cond.selects yX10_endOf.cls yX10_endOf yX10_endOf ∈ WT ∧ vwCl[8]? = some (yX10_endOf.cls, TX10, 9) := ⟨wt 1424 (by decide +kernel) rfl, wt 1425 (by decide +kernel) rfl, rfl⟩
theorem ceJ7_copyOf_59c91 : jCe yJ7_copyOf_59c91 mJ7_copyOf_59c91 2 := ⟨wt 11 (by decide +kernel) rfl, wt 1441 (by decide +kernel) rfl, by decide +kernel, by decide +kernel⟩
theorem csJ7_copyOf_59c91 : Cond.static yJ7_copyOf_59c91 ∈ WT := wt 1440 (by decide +kernel) rfl
theorem ceX10_end : jCe yX10_end mX10_end 0 := ⟨wt 10 (by decide +kernel) rfl, wt 1422 (by decide +kernel) rfl, by decide +kernel, by decide +kernel⟩
theorem cvX10_end : Cond.instanceMethod yX10_end ∈ WT ∧ Cond.selects yX10_end.cls yX10_end yX10_end ∈ WT ∧ vwCl[8]? = some (yX10_end.cls, TX10, 9) := ⟨wt 1420 (by decide +kernel) rfl, wt 1421 (by decide +kernel) rfl, rfl⟩
theorem ceX11_base : jCe yX11_base mX11_base 1 := ⟨wt 9 (by decide +kernel) rfl, wt 1480 (by decide +kernel) rfl, by decide +kernel, by decide +kernel⟩
theorem csX11_base : Cond.static yX11_base ∈ WT := wt 1479 (by decide +kernel) rfl
theorem ceX10_isNote : jCe yX10_isNote mX10_isNote 1 := ⟨wt 10 (by decide +kernel) rfl, wt 1473 (by decide +kernel) rfl, by decide +kernel, by decide +kernel⟩
theorem cvX10_isNote : Cond.instanceMethod yX10_isNote ∈ WT ∧ Cond.selects yX10_isNote.cls yX10_isNote yX10_isNote ∈ WT ∧ vwCl[8]? = some (yX10_isNote.cls, TX10, 9) := ⟨wt 1471 (by decide +kernel) rfl, wt 1472 (by decide +kernel) rfl, rfl⟩
theorem ceX10_height : jCe yX10_height mX10_height 1 := ⟨wt 10 (by decide +kernel) rfl, wt 1477 (by decide +kernel) rfl, by decide +kernel, by decide +kernel⟩
theorem cvX10_height : Cond.instanceMethod yX10_height ∈ WT ∧ Cond.selects yX10_height.cls yX10_height yX10_height ∈ WT ∧ vwCl[8]? = some (yX10_height.cls, TX10, 9) := ⟨wt 1475 (by decide +kernel) rfl, wt 1476 (by decide +kernel) rfl, rfl⟩
theorem ceX10_writtenPlace : jCe yX10_writtenPlace mX10_writtenPlace 1 := ⟨wt 10 (by decide +kernel) rfl, wt 1516 (by decide +kernel) rfl, by decide +kernel, by decide +kernel⟩
theorem cvX10_writtenPlace : Cond.instanceMethod yX10_writtenPlace ∈ WT ∧ Cond.selects yX10_writtenPlace.cls yX10_writtenPlace yX10_writtenPlace ∈ WT ∧ vwCl[8]? = some (yX10_writtenPlace.cls, TX10, 9) := ⟨wt 1514 (by decide +kernel) rfl, wt 1515 (by decide +kernel) rfl, rfl⟩
theorem ceX11_is : jCe yX11_is mX11_is 3 := ⟨wt 9 (by decide +kernel) rfl, wt 1402 (by decide +kernel) rfl, by decide +kernel, by decide +kernel⟩
theorem csX11_is : Cond.static yX11_is ∈ WT := wt 1401 (by decide +kernel) rfl
theorem ceX10_writtenAlter : jCe yX10_writtenAlter mX10_writtenAlter 1 := ⟨wt 10 (by decide +kernel) rfl, wt 1521 (by decide +kernel) rfl, by decide +kernel, by decide +kernel⟩
theorem cvX10_writtenAlter : Cond.instanceMethod yX10_writtenAlter ∈ WT ∧ Cond.selects yX10_writtenAlter.cls yX10_writtenAlter yX10_writtenAlter ∈ WT ∧ vwCl[8]? = some (yX10_writtenAlter.cls, TX10, 9) := ⟨wt 1519 (by decide +kernel) rfl, wt 1520 (by decide +kernel) rfl, rfl⟩
theorem ceX10_init : jCe yX10_init mX10_init 0 := ⟨wt 10 (by decide +kernel) rfl, wt 1255 (by decide +kernel) rfl, by decide +kernel, by decide +kernel⟩
theorem ciX10_init : Cond.instanceMethod yX10_init ∈ WT ∧ yX10_init.name = "<init>" := ⟨wt 1254 (by decide +kernel) rfl, rfl⟩
theorem ceX11_isPart : jCe yX11_isPart mX11_isPart 1 := ⟨wt 9 (by decide +kernel) rfl, wt 1399 (by decide +kernel) rfl, by decide +kernel, by decide +kernel⟩
theorem csX11_isPart : Cond.static yX11_isPart ∈ WT := wt 1398 (by decide +kernel) rfl
theorem ceX11_length : jCe yX11_length mX11_length 1 := ⟨wt 9 (by decide +kernel) rfl, wt 1434 (by decide +kernel) rfl, by decide +kernel, by decide +kernel⟩
theorem cvX11_length : Cond.instanceMethod yX11_length ∈ WT ∧ Cond.selects yX11_length.cls yX11_length yX11_length ∈ WT ∧ vwCl[9]? = some (yX11_length.cls, TX11, 31) := ⟨wt 1433 (by decide +kernel) rfl, wt_p 46 (by decide +kernel : _ = some (_, 31)), rfl⟩
theorem ceX11_begin : jCe yX11_begin mX11_begin 1 := ⟨wt 9 (by decide +kernel) rfl, wt 1430 (by decide +kernel) rfl, by decide +kernel, by decide +kernel⟩
theorem cvX11_begin : Cond.instanceMethod yX11_begin ∈ WT ∧ Cond.selects yX11_begin.cls yX11_begin yX11_begin ∈ WT ∧ vwCl[9]? = some (yX11_begin.cls, TX11, 31) := ⟨wt 1429 (by decide +kernel) rfl, wt_p 45 (by decide +kernel : _ = some (_, 31)), rfl⟩
theorem ceX11_refuse : jCe yX11_refuse mX11_refuse 1 := ⟨wt 9 (by decide +kernel) rfl, wt 1406 (by decide +kernel) rfl, by decide +kernel, by decide +kernel⟩
theorem cvX11_refuse : Cond.instanceMethod yX11_refuse ∈ WT ∧ Cond.selects yX11_refuse.cls yX11_refuse yX11_refuse ∈ WT ∧ vwCl[9]? = some (yX11_refuse.cls, TX11, 31) := ⟨wt 1405 (by decide +kernel) rfl, wt_p 43 (by decide +kernel : _ = some (_, 31)), rfl⟩
theorem ceX10_add : jCe yX10_add mX10_add 3 := ⟨wt 10 (by decide +kernel) rfl, wt 1438 (by decide +kernel) rfl, by decide +kernel, by decide +kernel⟩
theorem cvX10_add : Cond.instanceMethod yX10_add ∈ WT ∧ Cond.selects yX10_add.cls yX10_add yX10_add ∈ WT ∧ vwCl[8]? = some (yX10_add.cls, TX10, 9) := ⟨wt 1436 (by decide +kernel) rfl, wt 1437 (by decide +kernel) rfl, rfl⟩
theorem ceX11_isPitch : jCe yX11_isPitch mX11_isPitch 2 := ⟨wt 9 (by decide +kernel) rfl, wt 1409 (by decide +kernel) rfl, by decide +kernel, by decide +kernel⟩
theorem csX11_isPitch : Cond.static yX11_isPitch ∈ WT := wt 1408 (by decide +kernel) rfl
theorem ceX11_isValue : jCe yX11_isValue mX11_isValue 1 := ⟨wt 9 (by decide +kernel) rfl, wt 1412 (by decide +kernel) rfl, by decide +kernel, by decide +kernel⟩
theorem csX11_isValue : Cond.static yX11_isValue ∈ WT := wt 1411 (by decide +kernel) rfl
theorem ceX11_add : jCe yX11_add mX11_add 4 := ⟨wt 9 (by decide +kernel) rfl, wt 1418 (by decide +kernel) rfl, by decide +kernel, by decide +kernel⟩
theorem cvX11_add : Cond.instanceMethod yX11_add ∈ WT ∧ Cond.selects yX11_add.cls yX11_add yX11_add ∈ WT ∧ vwCl[9]? = some (yX11_add.cls, TX11, 31) := ⟨wt 1417 (by decide +kernel) rfl, wt_p 44 (by decide +kernel : _ = some (_, 31)), rfl⟩
theorem ceX11_isEvent : jCe yX11_isEvent mX11_isEvent 2 := ⟨wt 9 (by decide +kernel) rfl, wt 1469 (by decide +kernel) rfl, by decide +kernel, by decide +kernel⟩
theorem cvX11_isEvent : Cond.instanceMethod yX11_isEvent ∈ WT ∧ Cond.selects yX11_isEvent.cls yX11_isEvent yX11_isEvent ∈ WT ∧ vwCl[9]? = some (yX11_isEvent.cls, TX11, 31) := ⟨wt 1468 (by decide +kernel) rfl, wt_p 47 (by decide +kernel : _ = some (_, 31)), rfl⟩
theorem ceX11_isBar : jCe yX11_isBar mX11_isBar 1 := ⟨wt 9 (by decide +kernel) rfl, wt 1491 (by decide +kernel) rfl, by decide +kernel, by decide +kernel⟩
theorem csX11_isBar : Cond.static yX11_isBar ∈ WT := wt 1490 (by decide +kernel) rfl
theorem ceX10_isOut : jCe yX10_isOut mX10_isOut 1 := ⟨wt 10 (by decide +kernel) rfl, wt 1503 (by decide +kernel) rfl, by decide +kernel, by decide +kernel⟩
theorem cvX10_isOut : Cond.instanceMethod yX10_isOut ∈ WT ∧ Cond.selects yX10_isOut.cls yX10_isOut yX10_isOut ∈ WT ∧ vwCl[8]? = some (yX10_isOut.cls, TX10, 9) := ⟨wt 1501 (by decide +kernel) rfl, wt 1502 (by decide +kernel) rfl, rfl⟩
theorem ceX10_isWritten : jCe yX10_isWritten mX10_isWritten 1 := ⟨wt 10 (by decide +kernel) rfl, wt 1512 (by decide +kernel) rfl, by decide +kernel, by decide +kernel⟩
theorem cvX10_isWritten : Cond.instanceMethod yX10_isWritten ∈ WT ∧ Cond.selects yX10_isWritten.cls yX10_isWritten yX10_isWritten ∈ WT ∧ vwCl[8]? = some (yX10_isWritten.cls, TX10, 9) := ⟨wt 1510 (by decide +kernel) rfl, wt 1511 (by decide +kernel) rfl, rfl⟩
theorem ceX11_heightNow : jCe yX11_heightNow mX11_heightNow 2 := ⟨wt 9 (by decide +kernel) rfl, wt 1538 (by decide +kernel) rfl, by decide +kernel, by decide +kernel⟩
theorem cvX11_heightNow : Cond.instanceMethod yX11_heightNow ∈ WT ∧ Cond.selects yX11_heightNow.cls yX11_heightNow yX11_heightNow ∈ WT ∧ vwCl[9]? = some (yX11_heightNow.cls, TX11, 31) := ⟨wt 1537 (by decide +kernel) rfl, wt_p 48 (by decide +kernel : _ = some (_, 31)), rfl⟩
theorem ceX11_barAt : jCe yX11_barAt mX11_barAt 1 := ⟨wt 9 (by decide +kernel) rfl, wt 1546 (by decide +kernel) rfl, by decide +kernel, by decide +kernel⟩
theorem cvX11_barAt : Cond.instanceMethod yX11_barAt ∈ WT ∧ Cond.selects yX11_barAt.cls yX11_barAt yX11_barAt ∈ WT ∧ vwCl[9]? = some (yX11_barAt.cls, TX11, 31) := ⟨wt 1545 (by decide +kernel) rfl, wt_p 49 (by decide +kernel : _ = some (_, 31)), rfl⟩
theorem ceX11_writtenPlaceNow : jCe yX11_writtenPlaceNow mX11_writtenPlaceNow 2 := ⟨wt 9 (by decide +kernel) rfl, wt 1554 (by decide +kernel) rfl, by decide +kernel, by decide +kernel⟩
theorem cvX11_writtenPlaceNow : Cond.instanceMethod yX11_writtenPlaceNow ∈ WT ∧ Cond.selects yX11_writtenPlaceNow.cls yX11_writtenPlaceNow yX11_writtenPlaceNow ∈ WT ∧ vwCl[9]? = some (yX11_writtenPlaceNow.cls, TX11, 31) := ⟨wt 1553 (by decide +kernel) rfl, wt_p 50 (by decide +kernel : _ = some (_, 31)), rfl⟩
theorem ceX11_writtenAlterNow : jCe yX11_writtenAlterNow mX11_writtenAlterNow 2 := ⟨wt 9 (by decide +kernel) rfl, wt 1563 (by decide +kernel) rfl, by decide +kernel, by decide +kernel⟩
theorem cvX11_writtenAlterNow : Cond.instanceMethod yX11_writtenAlterNow ∈ WT ∧ Cond.selects yX11_writtenAlterNow.cls yX11_writtenAlterNow yX11_writtenAlterNow ∈ WT ∧ vwCl[9]? = some (yX11_writtenAlterNow.cls, TX11, 31) := ⟨wt 1562 (by decide +kernel) rfl, wt_p 51 (by decide +kernel : _ = some (_, 31)), rfl⟩
theorem ceX11_altered : jCe yX11_altered mX11_altered 2 := ⟨wt 9 (by decide +kernel) rfl, wt 1571 (by decide +kernel) rfl, by decide +kernel, by decide +kernel⟩
theorem csX11_altered : Cond.static yX11_altered ∈ WT := wt 1570 (by decide +kernel) rfl
theorem ceX11_keyWritten : jCe yX11_keyWritten mX11_keyWritten 2 := ⟨wt 9 (by decide +kernel) rfl, wt 1582 (by decide +kernel) rfl, by decide +kernel, by decide +kernel⟩
theorem cvX11_keyWritten : Cond.instanceMethod yX11_keyWritten ∈ WT ∧ Cond.selects yX11_keyWritten.cls yX11_keyWritten yX11_keyWritten ∈ WT ∧ vwCl[9]? = some (yX11_keyWritten.cls, TX11, 31) := ⟨wt 1581 (by decide +kernel) rfl, wt_p 52 (by decide +kernel : _ = some (_, 31)), rfl⟩
theorem ceX11_show : jCe yX11_show mX11_show 4 := ⟨wt 9 (by decide +kernel) rfl, wt 1609 (by decide +kernel) rfl, by decide +kernel, by decide +kernel⟩
theorem cvX11_show : Cond.instanceMethod yX11_show ∈ WT ∧ Cond.selects yX11_show.cls yX11_show yX11_show ∈ WT ∧ vwCl[9]? = some (yX11_show.cls, TX11, 31) := ⟨wt 1608 (by decide +kernel) rfl, wt_p 55 (by decide +kernel : _ = some (_, 31)), rfl⟩
theorem ceX11_beam : jCe yX11_beam mX11_beam 3 := ⟨wt 9 (by decide +kernel) rfl, wt 1613 (by decide +kernel) rfl, by decide +kernel, by decide +kernel⟩
theorem cvX11_beam : Cond.instanceMethod yX11_beam ∈ WT ∧ Cond.selects yX11_beam.cls yX11_beam yX11_beam ∈ WT ∧ vwCl[9]? = some (yX11_beam.cls, TX11, 31) := ⟨wt 1612 (by decide +kernel) rfl, wt_p 56 (by decide +kernel : _ = some (_, 31)), rfl⟩
theorem ceX11_isShort : jCe yX11_isShort mX11_isShort 2 := ⟨wt 9 (by decide +kernel) rfl, wt 1617 (by decide +kernel) rfl, by decide +kernel, by decide +kernel⟩
theorem cvX11_isShort : Cond.instanceMethod yX11_isShort ∈ WT ∧ Cond.selects yX11_isShort.cls yX11_isShort yX11_isShort ∈ WT ∧ vwCl[9]? = some (yX11_isShort.cls, TX11, 31) := ⟨wt 1616 (by decide +kernel) rfl, wt_p 57 (by decide +kernel : _ = some (_, 31)), rfl⟩
theorem ceX11_lay : jCe yX11_lay mX11_lay 2 := ⟨wt 9 (by decide +kernel) rfl, wt 1602 (by decide +kernel) rfl, by decide +kernel, by decide +kernel⟩
theorem cvX11_lay : Cond.instanceMethod yX11_lay ∈ WT ∧ Cond.selects yX11_lay.cls yX11_lay yX11_lay ∈ WT ∧ vwCl[9]? = some (yX11_lay.cls, TX11, 31) := ⟨wt 1601 (by decide +kernel) rfl, wt_p 54 (by decide +kernel : _ = some (_, 31)), rfl⟩
theorem ceX11_has : jCe yX11_has mX11_has 2 := ⟨wt 9 (by decide +kernel) rfl, wt 1598 (by decide +kernel) rfl, by decide +kernel, by decide +kernel⟩
theorem cvX11_has : Cond.instanceMethod yX11_has ∈ WT ∧ Cond.selects yX11_has.cls yX11_has yX11_has ∈ WT ∧ vwCl[9]? = some (yX11_has.cls, TX11, 31) := ⟨wt 1597 (by decide +kernel) rfl, wt_p 53 (by decide +kernel : _ = some (_, 31)), rfl⟩
theorem ceX11_has_ : jCe yX11_has_ mX11_has_ 3 := ⟨wt 9 (by decide +kernel) rfl, wt 1625 (by decide +kernel) rfl, by decide +kernel, by decide +kernel⟩
theorem cvX11_has_ : Cond.instanceMethod yX11_has_ ∈ WT ∧ Cond.selects yX11_has_.cls yX11_has_ yX11_has_ ∈ WT ∧ vwCl[9]? = some (yX11_has_.cls, TX11, 31) := ⟨wt 1624 (by decide +kernel) rfl, wt_p 58 (by decide +kernel : _ = some (_, 31)), rfl⟩
theorem ceX11_missingNow : jCe yX11_missingNow mX11_missingNow 2 := ⟨wt 9 (by decide +kernel) rfl, wt 1657 (by decide +kernel) rfl, by decide +kernel, by decide +kernel⟩
theorem cvX11_missingNow : Cond.instanceMethod yX11_missingNow ∈ WT ∧ Cond.selects yX11_missingNow.cls yX11_missingNow yX11_missingNow ∈ WT ∧ vwCl[9]? = some (yX11_missingNow.cls, TX11, 31) := ⟨wt 1656 (by decide +kernel) rfl, wt_p 59 (by decide +kernel : _ = some (_, 31)), rfl⟩
theorem ceX11_beginWalk : jCe yX11_beginWalk mX11_beginWalk 0 := ⟨wt 9 (by decide +kernel) rfl, wt 1669 (by decide +kernel) rfl, by decide +kernel, by decide +kernel⟩
theorem cvX11_beginWalk : Cond.instanceMethod yX11_beginWalk ∈ WT ∧ Cond.selects yX11_beginWalk.cls yX11_beginWalk yX11_beginWalk ∈ WT ∧ vwCl[9]? = some (yX11_beginWalk.cls, TX11, 31) := ⟨wt 1668 (by decide +kernel) rfl, wt_p 61 (by decide +kernel : _ = some (_, 31)), rfl⟩
theorem ceX11_walk : jCe yX11_walk mX11_walk 0 := ⟨wt 9 (by decide +kernel) rfl, wt 1673 (by decide +kernel) rfl, by decide +kernel, by decide +kernel⟩
theorem cvX11_walk : Cond.instanceMethod yX11_walk ∈ WT ∧ Cond.selects yX11_walk.cls yX11_walk yX11_walk ∈ WT ∧ vwCl[9]? = some (yX11_walk.cls, TX11, 31) := ⟨wt 1672 (by decide +kernel) rfl, wt_p 62 (by decide +kernel : _ = some (_, 31)), rfl⟩
theorem ceX11_momentsNow : jCe yX11_momentsNow mX11_momentsNow 0 := ⟨wt 9 (by decide +kernel) rfl, wt 1665 (by decide +kernel) rfl, by decide +kernel, by decide +kernel⟩
theorem cvX11_momentsNow : Cond.instanceMethod yX11_momentsNow ∈ WT ∧ Cond.selects yX11_momentsNow.cls yX11_momentsNow yX11_momentsNow ∈ WT ∧ vwCl[9]? = some (yX11_momentsNow.cls, TX11, 31) := ⟨wt 1664 (by decide +kernel) rfl, wt_p 60 (by decide +kernel : _ = some (_, 31)), rfl⟩
theorem ceX11_walkTo : jCe yX11_walkTo mX11_walkTo 1 := ⟨wt 9 (by decide +kernel) rfl, wt 1682 (by decide +kernel) rfl, by decide +kernel, by decide +kernel⟩
theorem cvX11_walkTo : Cond.instanceMethod yX11_walkTo ∈ WT ∧ Cond.selects yX11_walkTo.cls yX11_walkTo yX11_walkTo ∈ WT ∧ vwCl[9]? = some (yX11_walkTo.cls, TX11, 31) := ⟨wt 1681 (by decide +kernel) rfl, wt_p 63 (by decide +kernel : _ = some (_, 31)), rfl⟩
theorem ceX11_soundsNow : jCe yX11_soundsNow mX11_soundsNow 1 := ⟨wt 9 (by decide +kernel) rfl, wt 1690 (by decide +kernel) rfl, by decide +kernel, by decide +kernel⟩
theorem cvX11_soundsNow : Cond.instanceMethod yX11_soundsNow ∈ WT ∧ Cond.selects yX11_soundsNow.cls yX11_soundsNow yX11_soundsNow ∈ WT ∧ vwCl[9]? = some (yX11_soundsNow.cls, TX11, 31) := ⟨wt 1689 (by decide +kernel) rfl, wt_p 64 (by decide +kernel : _ = some (_, 31)), rfl⟩
theorem ceX11_findChord : jCe yX11_findChord mX11_findChord 0 := ⟨wt 9 (by decide +kernel) rfl, wt 1698 (by decide +kernel) rfl, by decide +kernel, by decide +kernel⟩
theorem cvX11_findChord : Cond.instanceMethod yX11_findChord ∈ WT ∧ Cond.selects yX11_findChord.cls yX11_findChord yX11_findChord ∈ WT ∧ vwCl[9]? = some (yX11_findChord.cls, TX11, 31) := ⟨wt 1697 (by decide +kernel) rfl, wt_p 65 (by decide +kernel : _ = some (_, 31)), rfl⟩
theorem ceX11_blameParallels : jCe yX11_blameParallels mX11_blameParallels 2 := ⟨wt 9 (by decide +kernel) rfl, wt 1718 (by decide +kernel) rfl, by decide +kernel, by decide +kernel⟩
theorem cvX11_blameParallels : Cond.instanceMethod yX11_blameParallels ∈ WT ∧ Cond.selects yX11_blameParallels.cls yX11_blameParallels yX11_blameParallels ∈ WT ∧ vwCl[9]? = some (yX11_blameParallels.cls, TX11, 31) := ⟨wt 1717 (by decide +kernel) rfl, wt_p 67 (by decide +kernel : _ = some (_, 31)), rfl⟩
theorem ceX11_begins : jCe yX11_begins mX11_begins 1 := ⟨wt 9 (by decide +kernel) rfl, wt 1722 (by decide +kernel) rfl, by decide +kernel, by decide +kernel⟩
theorem cvX11_begins : Cond.instanceMethod yX11_begins ∈ WT ∧ Cond.selects yX11_begins.cls yX11_begins yX11_begins ∈ WT ∧ vwCl[9]? = some (yX11_begins.cls, TX11, 31) := ⟨wt 1721 (by decide +kernel) rfl, wt_p 68 (by decide +kernel : _ = some (_, 31)), rfl⟩
theorem ceX11_blame : jCe yX11_blame mX11_blame 2 := ⟨wt 9 (by decide +kernel) rfl, wt 1726 (by decide +kernel) rfl, by decide +kernel, by decide +kernel⟩
theorem cvX11_blame : Cond.instanceMethod yX11_blame ∈ WT ∧ Cond.selects yX11_blame.cls yX11_blame yX11_blame ∈ WT ∧ vwCl[9]? = some (yX11_blame.cls, TX11, 31) := ⟨wt 1725 (by decide +kernel) rfl, wt_p 69 (by decide +kernel : _ = some (_, 31)), rfl⟩
theorem ceX11_blamePart : jCe yX11_blamePart mX11_blamePart 1 := ⟨wt 9 (by decide +kernel) rfl, wt 1730 (by decide +kernel) rfl, by decide +kernel, by decide +kernel⟩
theorem cvX11_blamePart : Cond.instanceMethod yX11_blamePart ∈ WT ∧ Cond.selects yX11_blamePart.cls yX11_blamePart yX11_blamePart ∈ WT ∧ vwCl[9]? = some (yX11_blamePart.cls, TX11, 31) := ⟨wt 1729 (by decide +kernel) rfl, wt_p 70 (by decide +kernel : _ = some (_, 31)), rfl⟩
theorem ceX11_countFaults : jCe yX11_countFaults mX11_countFaults 1 := ⟨wt 9 (by decide +kernel) rfl, wt 1714 (by decide +kernel) rfl, by decide +kernel, by decide +kernel⟩
theorem cvX11_countFaults : Cond.instanceMethod yX11_countFaults ∈ WT ∧ Cond.selects yX11_countFaults.cls yX11_countFaults yX11_countFaults ∈ WT ∧ vwCl[9]? = some (yX11_countFaults.cls, TX11, 31) := ⟨wt 1713 (by decide +kernel) rfl, wt_p 66 (by decide +kernel : _ = some (_, 31)), rfl⟩
theorem ceX11_hasFault : jCe yX11_hasFault mX11_hasFault 1 := ⟨wt 9 (by decide +kernel) rfl, wt 1738 (by decide +kernel) rfl, by decide +kernel, by decide +kernel⟩
theorem cvX11_hasFault : Cond.instanceMethod yX11_hasFault ∈ WT ∧ Cond.selects yX11_hasFault.cls yX11_hasFault yX11_hasFault ∈ WT ∧ vwCl[9]? = some (yX11_hasFault.cls, TX11, 31) := ⟨wt 1737 (by decide +kernel) rfl, wt_p 71 (by decide +kernel : _ = some (_, 31)), rfl⟩
theorem ceX11_barsNow : jCe yX11_barsNow mX11_barsNow 0 := ⟨wt 9 (by decide +kernel) rfl, wt 1758 (by decide +kernel) rfl, by decide +kernel, by decide +kernel⟩
theorem cvX11_barsNow : Cond.instanceMethod yX11_barsNow ∈ WT ∧ Cond.selects yX11_barsNow.cls yX11_barsNow yX11_barsNow ∈ WT ∧ vwCl[9]? = some (yX11_barsNow.cls, TX11, 31) := ⟨wt 1757 (by decide +kernel) rfl, wt_p 72 (by decide +kernel : _ = some (_, 31)), rfl⟩
theorem ceX11_width : jCe yX11_width mX11_width 1 := ⟨wt 9 (by decide +kernel) rfl, wt 1766 (by decide +kernel) rfl, by decide +kernel, by decide +kernel⟩
theorem cvX11_width : Cond.instanceMethod yX11_width ∈ WT ∧ Cond.selects yX11_width.cls yX11_width yX11_width ∈ WT ∧ vwCl[9]? = some (yX11_width.cls, TX11, 31) := ⟨wt 1765 (by decide +kernel) rfl, wt_p 73 (by decide +kernel : _ = some (_, 31)), rfl⟩
theorem ceX11_breakLines : jCe yX11_breakLines mX11_breakLines 1 := ⟨wt 9 (by decide +kernel) rfl, wt 1778 (by decide +kernel) rfl, by decide +kernel, by decide +kernel⟩
theorem cvX11_breakLines : Cond.instanceMethod yX11_breakLines ∈ WT ∧ Cond.selects yX11_breakLines.cls yX11_breakLines yX11_breakLines ∈ WT ∧ vwCl[9]? = some (yX11_breakLines.cls, TX11, 31) := ⟨wt 1777 (by decide +kernel) rfl, wt_p 75 (by decide +kernel : _ = some (_, 31)), rfl⟩
theorem ceX11_linesNow : jCe yX11_linesNow mX11_linesNow 1 := ⟨wt 9 (by decide +kernel) rfl, wt 1774 (by decide +kernel) rfl, by decide +kernel, by decide +kernel⟩
theorem cvX11_linesNow : Cond.instanceMethod yX11_linesNow ∈ WT ∧ Cond.selects yX11_linesNow.cls yX11_linesNow yX11_linesNow ∈ WT ∧ vwCl[9]? = some (yX11_linesNow.cls, TX11, 31) := ⟨wt 1773 (by decide +kernel) rfl, wt_p 74 (by decide +kernel : _ = some (_, 31)), rfl⟩
theorem ceX11_costNow : jCe yX11_costNow mX11_costNow 1 := ⟨wt 9 (by decide +kernel) rfl, wt 1790 (by decide +kernel) rfl, by decide +kernel, by decide +kernel⟩
theorem cvX11_costNow : Cond.instanceMethod yX11_costNow ∈ WT ∧ Cond.selects yX11_costNow.cls yX11_costNow yX11_costNow ∈ WT ∧ vwCl[9]? = some (yX11_costNow.cls, TX11, 31) := ⟨wt 1789 (by decide +kernel) rfl, wt_p 76 (by decide +kernel : _ = some (_, 31)), rfl⟩
theorem ceX11_add_ : jCe yX11_add_ mX11_add_ 1 := ⟨wt 9 (by decide +kernel) rfl, wt 1803 (by decide +kernel) rfl, by decide +kernel, by decide +kernel⟩
theorem cvX11_add_ : Cond.instanceMethod yX11_add_ ∈ WT ∧ Cond.selects yX11_add_.cls yX11_add_ yX11_add_ ∈ WT ∧ vwCl[9]? = some (yX11_add_.cls, TX11, 31) := ⟨wt 1802 (by decide +kernel) rfl, wt_p 77 (by decide +kernel : _ = some (_, 31)), rfl⟩
theorem ceX11_addSigns : jCe yX11_addSigns mX11_addSigns 2 := ⟨wt 9 (by decide +kernel) rfl, wt 1808 (by decide +kernel) rfl, by decide +kernel, by decide +kernel⟩
theorem cvX11_addSigns : Cond.instanceMethod yX11_addSigns ∈ WT ∧ Cond.selects yX11_addSigns.cls yX11_addSigns yX11_addSigns ∈ WT ∧ vwCl[9]? = some (yX11_addSigns.cls, TX11, 31) := ⟨wt 1807 (by decide +kernel) rfl, wt_p 78 (by decide +kernel : _ = some (_, 31)), rfl⟩
theorem ceX9_addNote : jCe yX9_addNote mX9_addNote 4 := ⟨wt 1 (by decide +kernel) rfl, wt 814 (by decide +kernel) rfl, by decide +kernel, by decide +kernel⟩
theorem cvX9_addNote : Cond.instanceMethod yX9_addNote ∈ WT ∧ Cond.selects yX9_addNote.cls yX9_addNote yX9_addNote ∈ WT ∧ vwCl[7]? = some (yX9_addNote.cls, TX9, 12) := ⟨wt 812 (by decide +kernel) rfl, wt 813 (by decide +kernel) rfl, rfl⟩
theorem ceX9_addRest : jCe yX9_addRest mX9_addRest 2 := ⟨wt 1 (by decide +kernel) rfl, wt 901 (by decide +kernel) rfl, by decide +kernel, by decide +kernel⟩
theorem cvX9_addRest : Cond.instanceMethod yX9_addRest ∈ WT ∧ Cond.selects yX9_addRest.cls yX9_addRest yX9_addRest ∈ WT ∧ vwCl[7]? = some (yX9_addRest.cls, TX9, 12) := ⟨wt 899 (by decide +kernel) rfl, wt 900 (by decide +kernel) rfl, rfl⟩
theorem ceX9_takeLast : jCe yX9_takeLast mX9_takeLast 1 := ⟨wt 1 (by decide +kernel) rfl, wt 908 (by decide +kernel) rfl, by decide +kernel, by decide +kernel⟩
theorem cvX9_takeLast : Cond.instanceMethod yX9_takeLast ∈ WT ∧ Cond.selects yX9_takeLast.cls yX9_takeLast yX9_takeLast ∈ WT ∧ vwCl[7]? = some (yX9_takeLast.cls, TX9, 12) := ⟨wt 906 (by decide +kernel) rfl, wt 907 (by decide +kernel) rfl, rfl⟩
theorem ceX9_setPitch : jCe yX9_setPitch mX9_setPitch 4 := ⟨wt 1 (by decide +kernel) rfl, wt 920 (by decide +kernel) rfl, by decide +kernel, by decide +kernel⟩
theorem cvX9_setPitch : Cond.instanceMethod yX9_setPitch ∈ WT ∧ Cond.selects yX9_setPitch.cls yX9_setPitch yX9_setPitch ∈ WT ∧ vwCl[7]? = some (yX9_setPitch.cls, TX9, 12) := ⟨wt 918 (by decide +kernel) rfl, wt 919 (by decide +kernel) rfl, rfl⟩
theorem ceX9_setMetre : jCe yX9_setMetre mX9_setMetre 3 := ⟨wt 1 (by decide +kernel) rfl, wt 939 (by decide +kernel) rfl, by decide +kernel, by decide +kernel⟩
theorem cvX9_setMetre : Cond.instanceMethod yX9_setMetre ∈ WT ∧ Cond.selects yX9_setMetre.cls yX9_setMetre yX9_setMetre ∈ WT ∧ vwCl[7]? = some (yX9_setMetre.cls, TX9, 12) := ⟨wt 937 (by decide +kernel) rfl, wt 938 (by decide +kernel) rfl, rfl⟩
theorem ceX9_setKey : jCe yX9_setKey mX9_setKey 2 := ⟨wt 1 (by decide +kernel) rfl, wt 948 (by decide +kernel) rfl, by decide +kernel, by decide +kernel⟩
theorem cvX9_setKey : Cond.instanceMethod yX9_setKey ∈ WT ∧ Cond.selects yX9_setKey.cls yX9_setKey yX9_setKey ∈ WT ∧ vwCl[7]? = some (yX9_setKey.cls, TX9, 12) := ⟨wt 946 (by decide +kernel) rfl, wt 947 (by decide +kernel) rfl, rfl⟩
theorem ceX9_setRange : jCe yX9_setRange mX9_setRange 3 := ⟨wt 1 (by decide +kernel) rfl, wt 963 (by decide +kernel) rfl, by decide +kernel, by decide +kernel⟩
theorem cvX9_setRange : Cond.instanceMethod yX9_setRange ∈ WT ∧ Cond.selects yX9_setRange.cls yX9_setRange yX9_setRange ∈ WT ∧ vwCl[7]? = some (yX9_setRange.cls, TX9, 12) := ⟨wt 961 (by decide +kernel) rfl, wt 962 (by decide +kernel) rfl, rfl⟩
theorem ceX9_setShift : jCe yX9_setShift mX9_setShift 3 := ⟨wt 1 (by decide +kernel) rfl, wt 980 (by decide +kernel) rfl, by decide +kernel, by decide +kernel⟩
theorem cvX9_setShift : Cond.instanceMethod yX9_setShift ∈ WT ∧ Cond.selects yX9_setShift.cls yX9_setShift yX9_setShift ∈ WT ∧ vwCl[7]? = some (yX9_setShift.cls, TX9, 12) := ⟨wt 978 (by decide +kernel) rfl, wt 979 (by decide +kernel) rfl, rfl⟩
theorem ceX9_events : jCe yX9_events mX9_events 1 := ⟨wt 1 (by decide +kernel) rfl, wt 996 (by decide +kernel) rfl, by decide +kernel, by decide +kernel⟩
theorem cvX9_events : Cond.instanceMethod yX9_events ∈ WT ∧ Cond.selects yX9_events.cls yX9_events yX9_events ∈ WT ∧ vwCl[7]? = some (yX9_events.cls, TX9, 12) := ⟨wt 994 (by decide +kernel) rfl, wt 995 (by decide +kernel) rfl, rfl⟩
theorem ceX9_beginOf : jCe yX9_beginOf mX9_beginOf 2 := ⟨wt 1 (by decide +kernel) rfl, wt 1003 (by decide +kernel) rfl, by decide +kernel, by decide +kernel⟩
theorem cvX9_beginOf : Cond.instanceMethod yX9_beginOf ∈ WT ∧ Cond.selects yX9_beginOf.cls yX9_beginOf yX9_beginOf ∈ WT ∧ vwCl[7]? = some (yX9_beginOf.cls, TX9, 12) := ⟨wt 1001 (by decide +kernel) rfl, wt 1002 (by decide +kernel) rfl, rfl⟩
theorem ceX9_heightOf : jCe yX9_heightOf mX9_heightOf 2 := ⟨wt 1 (by decide +kernel) rfl, wt 1010 (by decide +kernel) rfl, by decide +kernel, by decide +kernel⟩
theorem cvX9_heightOf : Cond.instanceMethod yX9_heightOf ∈ WT ∧ Cond.selects yX9_heightOf.cls yX9_heightOf yX9_heightOf ∈ WT ∧ vwCl[7]? = some (yX9_heightOf.cls, TX9, 12) := ⟨wt 1008 (by decide +kernel) rfl, wt 1009 (by decide +kernel) rfl, rfl⟩
theorem ceX9_barOf : jCe yX9_barOf mX9_barOf 2 := ⟨wt 1 (by decide +kernel) rfl, wt 1017 (by decide +kernel) rfl, by decide +kernel, by decide +kernel⟩
theorem cvX9_barOf : Cond.instanceMethod yX9_barOf ∈ WT ∧ Cond.selects yX9_barOf.cls yX9_barOf yX9_barOf ∈ WT ∧ vwCl[7]? = some (yX9_barOf.cls, TX9, 12) := ⟨wt 1015 (by decide +kernel) rfl, wt 1016 (by decide +kernel) rfl, rfl⟩
theorem ceX9_writtenPlace : jCe yX9_writtenPlace mX9_writtenPlace 2 := ⟨wt 1 (by decide +kernel) rfl, wt 1024 (by decide +kernel) rfl, by decide +kernel, by decide +kernel⟩
theorem cvX9_writtenPlace : Cond.instanceMethod yX9_writtenPlace ∈ WT ∧ Cond.selects yX9_writtenPlace.cls yX9_writtenPlace yX9_writtenPlace ∈ WT ∧ vwCl[7]? = some (yX9_writtenPlace.cls, TX9, 12) := ⟨wt 1022 (by decide +kernel) rfl, wt 1023 (by decide +kernel) rfl, rfl⟩
theorem ceX9_writtenAlter : jCe yX9_writtenAlter mX9_writtenAlter 2 := ⟨wt 1 (by decide +kernel) rfl, wt 1031 (by decide +kernel) rfl, by decide +kernel, by decide +kernel⟩
theorem cvX9_writtenAlter : Cond.instanceMethod yX9_writtenAlter ∈ WT ∧ Cond.selects yX9_writtenAlter.cls yX9_writtenAlter yX9_writtenAlter ∈ WT ∧ vwCl[7]? = some (yX9_writtenAlter.cls, TX9, 12) := ⟨wt 1029 (by decide +kernel) rfl, wt 1030 (by decide +kernel) rfl, rfl⟩
theorem ceX9_alterIn : jCe yX9_alterIn mX9_alterIn 2 := ⟨wt 1 (by decide +kernel) rfl, wt 1038 (by decide +kernel) rfl, by decide +kernel, by decide +kernel⟩
theorem cvX9_alterIn : Cond.instanceMethod yX9_alterIn ∈ WT ∧ Cond.selects yX9_alterIn.cls yX9_alterIn yX9_alterIn ∈ WT ∧ vwCl[7]? = some (yX9_alterIn.cls, TX9, 12) := ⟨wt 1036 (by decide +kernel) rfl, wt 1037 (by decide +kernel) rfl, rfl⟩
theorem ceX9_writtenKey : jCe yX9_writtenKey mX9_writtenKey 2 := ⟨wt 1 (by decide +kernel) rfl, wt 1047 (by decide +kernel) rfl, by decide +kernel, by decide +kernel⟩
theorem cvX9_writtenKey : Cond.instanceMethod yX9_writtenKey ∈ WT ∧ Cond.selects yX9_writtenKey.cls yX9_writtenKey yX9_writtenKey ∈ WT ∧ vwCl[7]? = some (yX9_writtenKey.cls, TX9, 12) := ⟨wt 1045 (by decide +kernel) rfl, wt 1046 (by decide +kernel) rfl, rfl⟩
theorem ceX9_beginOfBar : jCe yX9_beginOfBar mX9_beginOfBar 1 := ⟨wt 1 (by decide +kernel) rfl, wt 1054 (by decide +kernel) rfl, by decide +kernel, by decide +kernel⟩
theorem cvX9_beginOfBar : Cond.instanceMethod yX9_beginOfBar ∈ WT ∧ Cond.selects yX9_beginOfBar.cls yX9_beginOfBar yX9_beginOfBar ∈ WT ∧ vwCl[7]? = some (yX9_beginOfBar.cls, TX9, 12) := ⟨wt 1052 (by decide +kernel) rfl, wt 1053 (by decide +kernel) rfl, rfl⟩
theorem ceX9_lengthOfBar : jCe yX9_lengthOfBar mX9_lengthOfBar 1 := ⟨wt 1 (by decide +kernel) rfl, wt 1061 (by decide +kernel) rfl, by decide +kernel, by decide +kernel⟩
theorem cvX9_lengthOfBar : Cond.instanceMethod yX9_lengthOfBar ∈ WT ∧ Cond.selects yX9_lengthOfBar.cls yX9_lengthOfBar yX9_lengthOfBar ∈ WT ∧ vwCl[7]? = some (yX9_lengthOfBar.cls, TX9, 12) := ⟨wt 1059 (by decide +kernel) rfl, wt 1060 (by decide +kernel) rfl, rfl⟩
theorem ceX9_signs : jCe yX9_signs mX9_signs 2 := ⟨wt 1 (by decide +kernel) rfl, wt 1068 (by decide +kernel) rfl, by decide +kernel, by decide +kernel⟩
theorem cvX9_signs : Cond.instanceMethod yX9_signs ∈ WT ∧ Cond.selects yX9_signs.cls yX9_signs yX9_signs ∈ WT ∧ vwCl[7]? = some (yX9_signs.cls, TX9, 12) := ⟨wt 1066 (by decide +kernel) rfl, wt 1067 (by decide +kernel) rfl, rfl⟩
theorem ceX9_eventOf : jCe yX9_eventOf mX9_eventOf 3 := ⟨wt 1 (by decide +kernel) rfl, wt 1075 (by decide +kernel) rfl, by decide +kernel, by decide +kernel⟩
theorem cvX9_eventOf : Cond.instanceMethod yX9_eventOf ∈ WT ∧ Cond.selects yX9_eventOf.cls yX9_eventOf yX9_eventOf ∈ WT ∧ vwCl[7]? = some (yX9_eventOf.cls, TX9, 12) := ⟨wt 1073 (by decide +kernel) rfl, wt 1074 (by decide +kernel) rfl, rfl⟩
theorem ceX9_lengthOf : jCe yX9_lengthOf mX9_lengthOf 3 := ⟨wt 1 (by decide +kernel) rfl, wt 1088 (by decide +kernel) rfl, by decide +kernel, by decide +kernel⟩
theorem cvX9_lengthOf : Cond.instanceMethod yX9_lengthOf ∈ WT ∧ Cond.selects yX9_lengthOf.cls yX9_lengthOf yX9_lengthOf ∈ WT ∧ vwCl[7]? = some (yX9_lengthOf.cls, TX9, 12) := ⟨wt 1086 (by decide +kernel) rfl, wt 1087 (by decide +kernel) rfl, rfl⟩
theorem ceX9_isTied : jCe yX9_isTied mX9_isTied 3 := ⟨wt 1 (by decide +kernel) rfl, wt 1095 (by decide +kernel) rfl, by decide +kernel, by decide +kernel⟩
theorem cvX9_isTied : Cond.instanceMethod yX9_isTied ∈ WT ∧ Cond.selects yX9_isTied.cls yX9_isTied yX9_isTied ∈ WT ∧ vwCl[7]? = some (yX9_isTied.cls, TX9, 12) := ⟨wt 1093 (by decide +kernel) rfl, wt 1094 (by decide +kernel) rfl, rfl⟩
theorem ceX9_shown : jCe yX9_shown mX9_shown 3 := ⟨wt 1 (by decide +kernel) rfl, wt 1102 (by decide +kernel) rfl, by decide +kernel, by decide +kernel⟩
theorem cvX9_shown : Cond.instanceMethod yX9_shown ∈ WT ∧ Cond.selects yX9_shown.cls yX9_shown yX9_shown ∈ WT ∧ vwCl[7]? = some (yX9_shown.cls, TX9, 12) := ⟨wt 1100 (by decide +kernel) rfl, wt 1101 (by decide +kernel) rfl, rfl⟩
theorem ceX9_shownWritten : jCe yX9_shownWritten mX9_shownWritten 3 := ⟨wt 1 (by decide +kernel) rfl, wt 1109 (by decide +kernel) rfl, by decide +kernel, by decide +kernel⟩
theorem cvX9_shownWritten : Cond.instanceMethod yX9_shownWritten ∈ WT ∧ Cond.selects yX9_shownWritten.cls yX9_shownWritten yX9_shownWritten ∈ WT ∧ vwCl[7]? = some (yX9_shownWritten.cls, TX9, 12) := ⟨wt 1107 (by decide +kernel) rfl, wt 1108 (by decide +kernel) rfl, rfl⟩
theorem ceX9_beams : jCe yX9_beams mX9_beams 2 := ⟨wt 1 (by decide +kernel) rfl, wt 1116 (by decide +kernel) rfl, by decide +kernel, by decide +kernel⟩
theorem cvX9_beams : Cond.instanceMethod yX9_beams ∈ WT ∧ Cond.selects yX9_beams.cls yX9_beams yX9_beams ∈ WT ∧ vwCl[7]? = some (yX9_beams.cls, TX9, 12) := ⟨wt 1114 (by decide +kernel) rfl, wt 1115 (by decide +kernel) rfl, rfl⟩
theorem ceX9_beamOf : jCe yX9_beamOf mX9_beamOf 3 := ⟨wt 1 (by decide +kernel) rfl, wt 1123 (by decide +kernel) rfl, by decide +kernel, by decide +kernel⟩
theorem cvX9_beamOf : Cond.instanceMethod yX9_beamOf ∈ WT ∧ Cond.selects yX9_beamOf.cls yX9_beamOf yX9_beamOf ∈ WT ∧ vwCl[7]? = some (yX9_beamOf.cls, TX9, 12) := ⟨wt 1121 (by decide +kernel) rfl, wt 1122 (by decide +kernel) rfl, rfl⟩
theorem ceX9_missing : jCe yX9_missing mX9_missing 2 := ⟨wt 1 (by decide +kernel) rfl, wt 1130 (by decide +kernel) rfl, by decide +kernel, by decide +kernel⟩
theorem cvX9_missing : Cond.instanceMethod yX9_missing ∈ WT ∧ Cond.selects yX9_missing.cls yX9_missing yX9_missing ∈ WT ∧ vwCl[7]? = some (yX9_missing.cls, TX9, 12) := ⟨wt 1128 (by decide +kernel) rfl, wt 1129 (by decide +kernel) rfl, rfl⟩
theorem ceX9_tickOf : jCe yX9_tickOf mX9_tickOf 1 := ⟨wt 1 (by decide +kernel) rfl, wt 1137 (by decide +kernel) rfl, by decide +kernel, by decide +kernel⟩
theorem cvX9_tickOf : Cond.instanceMethod yX9_tickOf ∈ WT ∧ Cond.selects yX9_tickOf.cls yX9_tickOf yX9_tickOf ∈ WT ∧ vwCl[7]? = some (yX9_tickOf.cls, TX9, 12) := ⟨wt 1135 (by decide +kernel) rfl, wt 1136 (by decide +kernel) rfl, rfl⟩
theorem ceX9_sounds : jCe yX9_sounds mX9_sounds 2 := ⟨wt 1 (by decide +kernel) rfl, wt 1150 (by decide +kernel) rfl, by decide +kernel, by decide +kernel⟩
theorem cvX9_sounds : Cond.instanceMethod yX9_sounds ∈ WT ∧ Cond.selects yX9_sounds.cls yX9_sounds yX9_sounds ∈ WT ∧ vwCl[7]? = some (yX9_sounds.cls, TX9, 12) := ⟨wt 1148 (by decide +kernel) rfl, wt 1149 (by decide +kernel) rfl, rfl⟩
theorem ceX9_root : jCe yX9_root mX9_root 1 := ⟨wt 1 (by decide +kernel) rfl, wt 1157 (by decide +kernel) rfl, by decide +kernel, by decide +kernel⟩
theorem cvX9_root : Cond.instanceMethod yX9_root ∈ WT ∧ Cond.selects yX9_root.cls yX9_root yX9_root ∈ WT ∧ vwCl[7]? = some (yX9_root.cls, TX9, 12) := ⟨wt 1155 (by decide +kernel) rfl, wt 1156 (by decide +kernel) rfl, rfl⟩
theorem ceX9_kind : jCe yX9_kind mX9_kind 1 := ⟨wt 1 (by decide +kernel) rfl, wt 1164 (by decide +kernel) rfl, by decide +kernel, by decide +kernel⟩
theorem cvX9_kind : Cond.instanceMethod yX9_kind ∈ WT ∧ Cond.selects yX9_kind.cls yX9_kind yX9_kind ∈ WT ∧ vwCl[7]? = some (yX9_kind.cls, TX9, 12) := ⟨wt 1162 (by decide +kernel) rfl, wt 1163 (by decide +kernel) rfl, rfl⟩
theorem ceX9_inversion : jCe yX9_inversion mX9_inversion 1 := ⟨wt 1 (by decide +kernel) rfl, wt 1171 (by decide +kernel) rfl, by decide +kernel, by decide +kernel⟩
theorem cvX9_inversion : Cond.instanceMethod yX9_inversion ∈ WT ∧ Cond.selects yX9_inversion.cls yX9_inversion yX9_inversion ∈ WT ∧ vwCl[7]? = some (yX9_inversion.cls, TX9, 12) := ⟨wt 1169 (by decide +kernel) rfl, wt 1170 (by decide +kernel) rfl, rfl⟩
theorem ceX9_kindOfFault : jCe yX9_kindOfFault mX9_kindOfFault 1 := ⟨wt 1 (by decide +kernel) rfl, wt 1178 (by decide +kernel) rfl, by decide +kernel, by decide +kernel⟩
theorem cvX9_kindOfFault : Cond.instanceMethod yX9_kindOfFault ∈ WT ∧ Cond.selects yX9_kindOfFault.cls yX9_kindOfFault yX9_kindOfFault ∈ WT ∧ vwCl[7]? = some (yX9_kindOfFault.cls, TX9, 12) := ⟨wt 1176 (by decide +kernel) rfl, wt 1177 (by decide +kernel) rfl, rfl⟩
theorem ceX9_tickOfFault : jCe yX9_tickOfFault mX9_tickOfFault 1 := ⟨wt 1 (by decide +kernel) rfl, wt 1191 (by decide +kernel) rfl, by decide +kernel, by decide +kernel⟩
theorem cvX9_tickOfFault : Cond.instanceMethod yX9_tickOfFault ∈ WT ∧ Cond.selects yX9_tickOfFault.cls yX9_tickOfFault yX9_tickOfFault ∈ WT ∧ vwCl[7]? = some (yX9_tickOfFault.cls, TX9, 12) := ⟨wt 1189 (by decide +kernel) rfl, wt 1190 (by decide +kernel) rfl, rfl⟩
theorem ceX9_partsOfFault : jCe yX9_partsOfFault mX9_partsOfFault 1 := ⟨wt 1 (by decide +kernel) rfl, wt 1198 (by decide +kernel) rfl, by decide +kernel, by decide +kernel⟩
theorem cvX9_partsOfFault : Cond.instanceMethod yX9_partsOfFault ∈ WT ∧ Cond.selects yX9_partsOfFault.cls yX9_partsOfFault yX9_partsOfFault ∈ WT ∧ vwCl[7]? = some (yX9_partsOfFault.cls, TX9, 12) := ⟨wt 1196 (by decide +kernel) rfl, wt 1197 (by decide +kernel) rfl, rfl⟩
theorem ceX9_faultsIfUp : jCe yX9_faultsIfUp mX9_faultsIfUp 2 := ⟨wt 1 (by decide +kernel) rfl, wt 1205 (by decide +kernel) rfl, by decide +kernel, by decide +kernel⟩
theorem cvX9_faultsIfUp : Cond.instanceMethod yX9_faultsIfUp ∈ WT ∧ Cond.selects yX9_faultsIfUp.cls yX9_faultsIfUp yX9_faultsIfUp ∈ WT ∧ vwCl[7]? = some (yX9_faultsIfUp.cls, TX9, 12) := ⟨wt 1203 (by decide +kernel) rfl, wt 1204 (by decide +kernel) rfl, rfl⟩
theorem ceX9_widthOf : jCe yX9_widthOf mX9_widthOf 1 := ⟨wt 1 (by decide +kernel) rfl, wt 1214 (by decide +kernel) rfl, by decide +kernel, by decide +kernel⟩
theorem cvX9_widthOf : Cond.instanceMethod yX9_widthOf ∈ WT ∧ Cond.selects yX9_widthOf.cls yX9_widthOf yX9_widthOf ∈ WT ∧ vwCl[7]? = some (yX9_widthOf.cls, TX9, 12) := ⟨wt 1212 (by decide +kernel) rfl, wt 1213 (by decide +kernel) rfl, rfl⟩
theorem ceX9_lines : jCe yX9_lines mX9_lines 1 := ⟨wt 1 (by decide +kernel) rfl, wt 1221 (by decide +kernel) rfl, by decide +kernel, by decide +kernel⟩
theorem cvX9_lines : Cond.instanceMethod yX9_lines ∈ WT ∧ Cond.selects yX9_lines.cls yX9_lines yX9_lines ∈ WT ∧ vwCl[7]? = some (yX9_lines.cls, TX9, 12) := ⟨wt 1219 (by decide +kernel) rfl, wt 1220 (by decide +kernel) rfl, rfl⟩
theorem ceX9_lineOf : jCe yX9_lineOf mX9_lineOf 2 := ⟨wt 1 (by decide +kernel) rfl, wt 1232 (by decide +kernel) rfl, by decide +kernel, by decide +kernel⟩
theorem cvX9_lineOf : Cond.instanceMethod yX9_lineOf ∈ WT ∧ Cond.selects yX9_lineOf.cls yX9_lineOf yX9_lineOf ∈ WT ∧ vwCl[7]? = some (yX9_lineOf.cls, TX9, 12) := ⟨wt 1230 (by decide +kernel) rfl, wt 1231 (by decide +kernel) rfl, rfl⟩
theorem ceX9_costOf : jCe yX9_costOf mX9_costOf 1 := ⟨wt 1 (by decide +kernel) rfl, wt 1243 (by decide +kernel) rfl, by decide +kernel, by decide +kernel⟩
theorem cvX9_costOf : Cond.instanceMethod yX9_costOf ∈ WT ∧ Cond.selects yX9_costOf.cls yX9_costOf yX9_costOf ∈ WT ∧ vwCl[7]? = some (yX9_costOf.cls, TX9, 12) := ⟨wt 1241 (by decide +kernel) rfl, wt 1242 (by decide +kernel) rfl, rfl⟩
theorem ceX9_init : jCe yX9_init mX9_init 0 := ⟨wt 1 (by decide +kernel) rfl, wt 27 (by decide +kernel) rfl, by decide +kernel, by decide +kernel⟩
theorem ciX9_init : Cond.instanceMethod yX9_init ∈ WT ∧ yX9_init.name = "<init>" := ⟨wt 26 (by decide +kernel) rfl, rfl⟩
theorem ceX11_init : jCe yX11_init mX11_init 0 := ⟨wt 9 (by decide +kernel) rfl, wt 1248 (by decide +kernel) rfl, by decide +kernel, by decide +kernel⟩
theorem ciX11_init : Cond.instanceMethod yX11_init ∈ WT ∧ yX11_init.name = "<init>" := ⟨wt 1247 (by decide +kernel) rfl, rfl⟩
theorem ceL_addNote : Cond.initialized yL_addNote.cls ∈ WT ∧ Cond.codeWith yL_addNote (jM.cc mL_addNote) (jM.nL mL_addNote) (jM.ret mL_addNote) (jM.hh mL_addNote) ∈ WT ∧ (yL_addNote.cls ≠ "java/lang/invoke/MethodHandle" ∧ yL_addNote.cls ≠ "java/lang/invoke/VarHandle") ∧ (parseMethodDescriptor yL_addNote.desc).map (fun d => d.parameters.length) = some 6 := ⟨wt 0 (by decide +kernel) rfl, wt 807 (by decide +kernel) rfl, by decide +kernel, by decide +kernel⟩
theorem csL_addNote : Cond.static yL_addNote ∈ WT := wt 806 (by decide +kernel) rfl
theorem ceX11_addNote : jCe yX11_addNote mX11_addNote 4 := ⟨wt 9 (by decide +kernel) rfl, wt 1396 (by decide +kernel) rfl, by decide +kernel, by decide +kernel⟩
theorem cvX11_addNote : Cond.instanceMethod yX11_addNote ∈ WT ∧ Cond.selects yX11_addNote.cls yX11_addNote yX11_addNote ∈ WT ∧ vwCl[9]? = some (yX11_addNote.cls, TX11, 31) := ⟨wt 1394 (by decide +kernel) rfl, wt 1395 (by decide +kernel) rfl, rfl⟩
theorem ceX11_thrown : jCe yX11_thrown mX11_thrown 0 := ⟨wt 9 (by decide +kernel) rfl, wt 1392 (by decide +kernel) rfl, by decide +kernel, by decide +kernel⟩
theorem cvX11_thrown : Cond.instanceMethod yX11_thrown ∈ WT ∧ Cond.selects yX11_thrown.cls yX11_thrown yX11_thrown ∈ WT ∧ vwCl[9]? = some (yX11_thrown.cls, TX11, 31) := ⟨wt 1390 (by decide +kernel) rfl, wt 1391 (by decide +kernel) rfl, rfl⟩
theorem ceL_addRest : Cond.initialized yL_addRest.cls ∈ WT ∧ Cond.codeWith yL_addRest (jM.cc mL_addRest) (jM.nL mL_addRest) (jM.ret mL_addRest) (jM.hh mL_addRest) ∈ WT ∧ (yL_addRest.cls ≠ "java/lang/invoke/MethodHandle" ∧ yL_addRest.cls ≠ "java/lang/invoke/VarHandle") ∧ (parseMethodDescriptor yL_addRest.desc).map (fun d => d.parameters.length) = some 4 := ⟨wt 0 (by decide +kernel) rfl, wt 897 (by decide +kernel) rfl, by decide +kernel, by decide +kernel⟩
theorem csL_addRest : Cond.static yL_addRest ∈ WT := wt 896 (by decide +kernel) rfl
theorem ceX11_addRest : jCe yX11_addRest mX11_addRest 2 := ⟨wt 9 (by decide +kernel) rfl, wt 1457 (by decide +kernel) rfl, by decide +kernel, by decide +kernel⟩
theorem cvX11_addRest : Cond.instanceMethod yX11_addRest ∈ WT ∧ Cond.selects yX11_addRest.cls yX11_addRest yX11_addRest ∈ WT ∧ vwCl[9]? = some (yX11_addRest.cls, TX11, 31) := ⟨wt 1455 (by decide +kernel) rfl, wt 1456 (by decide +kernel) rfl, rfl⟩
theorem ceL_takeLast : Cond.initialized yL_takeLast.cls ∈ WT ∧ Cond.codeWith yL_takeLast (jM.cc mL_takeLast) (jM.nL mL_takeLast) (jM.ret mL_takeLast) (jM.hh mL_takeLast) ∈ WT ∧ (yL_takeLast.cls ≠ "java/lang/invoke/MethodHandle" ∧ yL_takeLast.cls ≠ "java/lang/invoke/VarHandle") ∧ (parseMethodDescriptor yL_takeLast.desc).map (fun d => d.parameters.length) = some 3 := ⟨wt 0 (by decide +kernel) rfl, wt 904 (by decide +kernel) rfl, by decide +kernel, by decide +kernel⟩
theorem csL_takeLast : Cond.static yL_takeLast ∈ WT := wt 903 (by decide +kernel) rfl
theorem ceX11_takeLast : jCe yX11_takeLast mX11_takeLast 1 := ⟨wt 9 (by decide +kernel) rfl, wt 1461 (by decide +kernel) rfl, by decide +kernel, by decide +kernel⟩
theorem cvX11_takeLast : Cond.instanceMethod yX11_takeLast ∈ WT ∧ Cond.selects yX11_takeLast.cls yX11_takeLast yX11_takeLast ∈ WT ∧ vwCl[9]? = some (yX11_takeLast.cls, TX11, 31) := ⟨wt 1459 (by decide +kernel) rfl, wt 1460 (by decide +kernel) rfl, rfl⟩
theorem ceL_setPitch : Cond.initialized yL_setPitch.cls ∈ WT ∧ Cond.codeWith yL_setPitch (jM.cc mL_setPitch) (jM.nL mL_setPitch) (jM.ret mL_setPitch) (jM.hh mL_setPitch) ∈ WT ∧ (yL_setPitch.cls ≠ "java/lang/invoke/MethodHandle" ∧ yL_setPitch.cls ≠ "java/lang/invoke/VarHandle") ∧ (parseMethodDescriptor yL_setPitch.desc).map (fun d => d.parameters.length) = some 6 := ⟨wt 0 (by decide +kernel) rfl, wt 916 (by decide +kernel) rfl, by decide +kernel, by decide +kernel⟩
theorem csL_setPitch : Cond.static yL_setPitch ∈ WT := wt 915 (by decide +kernel) rfl
theorem ceX11_setPitch : jCe yX11_setPitch mX11_setPitch 4 := ⟨wt 9 (by decide +kernel) rfl, wt 1465 (by decide +kernel) rfl, by decide +kernel, by decide +kernel⟩
theorem cvX11_setPitch : Cond.instanceMethod yX11_setPitch ∈ WT ∧ Cond.selects yX11_setPitch.cls yX11_setPitch yX11_setPitch ∈ WT ∧ vwCl[9]? = some (yX11_setPitch.cls, TX11, 31) := ⟨wt 1463 (by decide +kernel) rfl, wt 1464 (by decide +kernel) rfl, rfl⟩
theorem ceL_setMetre : Cond.initialized yL_setMetre.cls ∈ WT ∧ Cond.codeWith yL_setMetre (jM.cc mL_setMetre) (jM.nL mL_setMetre) (jM.ret mL_setMetre) (jM.hh mL_setMetre) ∈ WT ∧ (yL_setMetre.cls ≠ "java/lang/invoke/MethodHandle" ∧ yL_setMetre.cls ≠ "java/lang/invoke/VarHandle") ∧ (parseMethodDescriptor yL_setMetre.desc).map (fun d => d.parameters.length) = some 5 := ⟨wt 0 (by decide +kernel) rfl, wt 935 (by decide +kernel) rfl, by decide +kernel, by decide +kernel⟩
theorem csL_setMetre : Cond.static yL_setMetre ∈ WT := wt 934 (by decide +kernel) rfl
theorem ceX11_setMetre : jCe yX11_setMetre mX11_setMetre 3 := ⟨wt 9 (by decide +kernel) rfl, wt 1488 (by decide +kernel) rfl, by decide +kernel, by decide +kernel⟩
theorem cvX11_setMetre : Cond.instanceMethod yX11_setMetre ∈ WT ∧ Cond.selects yX11_setMetre.cls yX11_setMetre yX11_setMetre ∈ WT ∧ vwCl[9]? = some (yX11_setMetre.cls, TX11, 31) := ⟨wt 1486 (by decide +kernel) rfl, wt 1487 (by decide +kernel) rfl, rfl⟩
theorem ceL_setKey : Cond.initialized yL_setKey.cls ∈ WT ∧ Cond.codeWith yL_setKey (jM.cc mL_setKey) (jM.nL mL_setKey) (jM.ret mL_setKey) (jM.hh mL_setKey) ∈ WT ∧ (yL_setKey.cls ≠ "java/lang/invoke/MethodHandle" ∧ yL_setKey.cls ≠ "java/lang/invoke/VarHandle") ∧ (parseMethodDescriptor yL_setKey.desc).map (fun d => d.parameters.length) = some 4 := ⟨wt 0 (by decide +kernel) rfl, wt 944 (by decide +kernel) rfl, by decide +kernel, by decide +kernel⟩
theorem csL_setKey : Cond.static yL_setKey ∈ WT := wt 943 (by decide +kernel) rfl
theorem ceX11_setKey : jCe yX11_setKey mX11_setKey 2 := ⟨wt 9 (by decide +kernel) rfl, wt 1495 (by decide +kernel) rfl, by decide +kernel, by decide +kernel⟩
theorem cvX11_setKey : Cond.instanceMethod yX11_setKey ∈ WT ∧ Cond.selects yX11_setKey.cls yX11_setKey yX11_setKey ∈ WT ∧ vwCl[9]? = some (yX11_setKey.cls, TX11, 31) := ⟨wt 1493 (by decide +kernel) rfl, wt 1494 (by decide +kernel) rfl, rfl⟩
theorem ceL_setRange : Cond.initialized yL_setRange.cls ∈ WT ∧ Cond.codeWith yL_setRange (jM.cc mL_setRange) (jM.nL mL_setRange) (jM.ret mL_setRange) (jM.hh mL_setRange) ∈ WT ∧ (yL_setRange.cls ≠ "java/lang/invoke/MethodHandle" ∧ yL_setRange.cls ≠ "java/lang/invoke/VarHandle") ∧ (parseMethodDescriptor yL_setRange.desc).map (fun d => d.parameters.length) = some 5 := ⟨wt 0 (by decide +kernel) rfl, wt 959 (by decide +kernel) rfl, by decide +kernel, by decide +kernel⟩
theorem csL_setRange : Cond.static yL_setRange ∈ WT := wt 958 (by decide +kernel) rfl
theorem ceX11_setRange : jCe yX11_setRange mX11_setRange 3 := ⟨wt 9 (by decide +kernel) rfl, wt 1499 (by decide +kernel) rfl, by decide +kernel, by decide +kernel⟩
theorem cvX11_setRange : Cond.instanceMethod yX11_setRange ∈ WT ∧ Cond.selects yX11_setRange.cls yX11_setRange yX11_setRange ∈ WT ∧ vwCl[9]? = some (yX11_setRange.cls, TX11, 31) := ⟨wt 1497 (by decide +kernel) rfl, wt 1498 (by decide +kernel) rfl, rfl⟩
theorem ceL_setShift : Cond.initialized yL_setShift.cls ∈ WT ∧ Cond.codeWith yL_setShift (jM.cc mL_setShift) (jM.nL mL_setShift) (jM.ret mL_setShift) (jM.hh mL_setShift) ∈ WT ∧ (yL_setShift.cls ≠ "java/lang/invoke/MethodHandle" ∧ yL_setShift.cls ≠ "java/lang/invoke/VarHandle") ∧ (parseMethodDescriptor yL_setShift.desc).map (fun d => d.parameters.length) = some 5 := ⟨wt 0 (by decide +kernel) rfl, wt 976 (by decide +kernel) rfl, by decide +kernel, by decide +kernel⟩
theorem csL_setShift : Cond.static yL_setShift ∈ WT := wt 975 (by decide +kernel) rfl
theorem ceX11_setShift : jCe yX11_setShift mX11_setShift 3 := ⟨wt 9 (by decide +kernel) rfl, wt 1508 (by decide +kernel) rfl, by decide +kernel, by decide +kernel⟩
theorem cvX11_setShift : Cond.instanceMethod yX11_setShift ∈ WT ∧ Cond.selects yX11_setShift.cls yX11_setShift yX11_setShift ∈ WT ∧ vwCl[9]? = some (yX11_setShift.cls, TX11, 31) := ⟨wt 1506 (by decide +kernel) rfl, wt 1507 (by decide +kernel) rfl, rfl⟩
theorem ceL_events : Cond.initialized yL_events.cls ∈ WT ∧ Cond.codeWith yL_events (jM.cc mL_events) (jM.nL mL_events) (jM.ret mL_events) (jM.hh mL_events) ∈ WT ∧ (yL_events.cls ≠ "java/lang/invoke/MethodHandle" ∧ yL_events.cls ≠ "java/lang/invoke/VarHandle") ∧ (parseMethodDescriptor yL_events.desc).map (fun d => d.parameters.length) = some 3 := ⟨wt 0 (by decide +kernel) rfl, wt 992 (by decide +kernel) rfl, by decide +kernel, by decide +kernel⟩
theorem csL_events : Cond.static yL_events ∈ WT := wt 991 (by decide +kernel) rfl
theorem ceX11_events : jCe yX11_events mX11_events 1 := ⟨wt 9 (by decide +kernel) rfl, wt 1526 (by decide +kernel) rfl, by decide +kernel, by decide +kernel⟩
theorem cvX11_events : Cond.instanceMethod yX11_events ∈ WT ∧ Cond.selects yX11_events.cls yX11_events yX11_events ∈ WT ∧ vwCl[9]? = some (yX11_events.cls, TX11, 31) := ⟨wt 1524 (by decide +kernel) rfl, wt 1525 (by decide +kernel) rfl, rfl⟩
theorem ceL_beginOf : Cond.initialized yL_beginOf.cls ∈ WT ∧ Cond.codeWith yL_beginOf (jM.cc mL_beginOf) (jM.nL mL_beginOf) (jM.ret mL_beginOf) (jM.hh mL_beginOf) ∈ WT ∧ (yL_beginOf.cls ≠ "java/lang/invoke/MethodHandle" ∧ yL_beginOf.cls ≠ "java/lang/invoke/VarHandle") ∧ (parseMethodDescriptor yL_beginOf.desc).map (fun d => d.parameters.length) = some 4 := ⟨wt 0 (by decide +kernel) rfl, wt 999 (by decide +kernel) rfl, by decide +kernel, by decide +kernel⟩
theorem csL_beginOf : Cond.static yL_beginOf ∈ WT := wt 998 (by decide +kernel) rfl
theorem ceX11_beginOf : jCe yX11_beginOf mX11_beginOf 2 := ⟨wt 9 (by decide +kernel) rfl, wt 1530 (by decide +kernel) rfl, by decide +kernel, by decide +kernel⟩
theorem cvX11_beginOf : Cond.instanceMethod yX11_beginOf ∈ WT ∧ Cond.selects yX11_beginOf.cls yX11_beginOf yX11_beginOf ∈ WT ∧ vwCl[9]? = some (yX11_beginOf.cls, TX11, 31) := ⟨wt 1528 (by decide +kernel) rfl, wt 1529 (by decide +kernel) rfl, rfl⟩
theorem ceL_heightOf : Cond.initialized yL_heightOf.cls ∈ WT ∧ Cond.codeWith yL_heightOf (jM.cc mL_heightOf) (jM.nL mL_heightOf) (jM.ret mL_heightOf) (jM.hh mL_heightOf) ∈ WT ∧ (yL_heightOf.cls ≠ "java/lang/invoke/MethodHandle" ∧ yL_heightOf.cls ≠ "java/lang/invoke/VarHandle") ∧ (parseMethodDescriptor yL_heightOf.desc).map (fun d => d.parameters.length) = some 4 := ⟨wt 0 (by decide +kernel) rfl, wt 1006 (by decide +kernel) rfl, by decide +kernel, by decide +kernel⟩
theorem csL_heightOf : Cond.static yL_heightOf ∈ WT := wt 1005 (by decide +kernel) rfl
theorem ceX11_heightOf : jCe yX11_heightOf mX11_heightOf 2 := ⟨wt 9 (by decide +kernel) rfl, wt 1534 (by decide +kernel) rfl, by decide +kernel, by decide +kernel⟩
theorem cvX11_heightOf : Cond.instanceMethod yX11_heightOf ∈ WT ∧ Cond.selects yX11_heightOf.cls yX11_heightOf yX11_heightOf ∈ WT ∧ vwCl[9]? = some (yX11_heightOf.cls, TX11, 31) := ⟨wt 1532 (by decide +kernel) rfl, wt 1533 (by decide +kernel) rfl, rfl⟩
theorem ceL_barOf : Cond.initialized yL_barOf.cls ∈ WT ∧ Cond.codeWith yL_barOf (jM.cc mL_barOf) (jM.nL mL_barOf) (jM.ret mL_barOf) (jM.hh mL_barOf) ∈ WT ∧ (yL_barOf.cls ≠ "java/lang/invoke/MethodHandle" ∧ yL_barOf.cls ≠ "java/lang/invoke/VarHandle") ∧ (parseMethodDescriptor yL_barOf.desc).map (fun d => d.parameters.length) = some 4 := ⟨wt 0 (by decide +kernel) rfl, wt 1013 (by decide +kernel) rfl, by decide +kernel, by decide +kernel⟩
theorem csL_barOf : Cond.static yL_barOf ∈ WT := wt 1012 (by decide +kernel) rfl
theorem ceX11_barOf : jCe yX11_barOf mX11_barOf 2 := ⟨wt 9 (by decide +kernel) rfl, wt 1542 (by decide +kernel) rfl, by decide +kernel, by decide +kernel⟩
theorem cvX11_barOf : Cond.instanceMethod yX11_barOf ∈ WT ∧ Cond.selects yX11_barOf.cls yX11_barOf yX11_barOf ∈ WT ∧ vwCl[9]? = some (yX11_barOf.cls, TX11, 31) := ⟨wt 1540 (by decide +kernel) rfl, wt 1541 (by decide +kernel) rfl, rfl⟩
theorem ceL_writtenPlace : Cond.initialized yL_writtenPlace.cls ∈ WT ∧ Cond.codeWith yL_writtenPlace (jM.cc mL_writtenPlace) (jM.nL mL_writtenPlace) (jM.ret mL_writtenPlace) (jM.hh mL_writtenPlace) ∈ WT ∧ (yL_writtenPlace.cls ≠ "java/lang/invoke/MethodHandle" ∧ yL_writtenPlace.cls ≠ "java/lang/invoke/VarHandle") ∧ (parseMethodDescriptor yL_writtenPlace.desc).map (fun d => d.parameters.length) = some 4 := ⟨wt 0 (by decide +kernel) rfl, wt 1020 (by decide +kernel) rfl, by decide +kernel, by decide +kernel⟩
theorem csL_writtenPlace : Cond.static yL_writtenPlace ∈ WT := wt 1019 (by decide +kernel) rfl
theorem ceX11_writtenPlace : jCe yX11_writtenPlace mX11_writtenPlace 2 := ⟨wt 9 (by decide +kernel) rfl, wt 1550 (by decide +kernel) rfl, by decide +kernel, by decide +kernel⟩
theorem cvX11_writtenPlace : Cond.instanceMethod yX11_writtenPlace ∈ WT ∧ Cond.selects yX11_writtenPlace.cls yX11_writtenPlace yX11_writtenPlace ∈ WT ∧ vwCl[9]? = some (yX11_writtenPlace.cls, TX11, 31) := ⟨wt 1548 (by decide +kernel) rfl, wt 1549 (by decide +kernel) rfl, rfl⟩
theorem ceL_writtenAlter : Cond.initialized yL_writtenAlter.cls ∈ WT ∧ Cond.codeWith yL_writtenAlter (jM.cc mL_writtenAlter) (jM.nL mL_writtenAlter) (jM.ret mL_writtenAlter) (jM.hh mL_writtenAlter) ∈ WT ∧ (yL_writtenAlter.cls ≠ "java/lang/invoke/MethodHandle" ∧ yL_writtenAlter.cls ≠ "java/lang/invoke/VarHandle") ∧ (parseMethodDescriptor yL_writtenAlter.desc).map (fun d => d.parameters.length) = some 4 := ⟨wt 0 (by decide +kernel) rfl, wt 1027 (by decide +kernel) rfl, by decide +kernel, by decide +kernel⟩
theorem csL_writtenAlter : Cond.static yL_writtenAlter ∈ WT := wt 1026 (by decide +kernel) rfl
theorem ceX11_writtenAlter : jCe yX11_writtenAlter mX11_writtenAlter 2 := ⟨wt 9 (by decide +kernel) rfl, wt 1559 (by decide +kernel) rfl, by decide +kernel, by decide +kernel⟩
theorem cvX11_writtenAlter : Cond.instanceMethod yX11_writtenAlter ∈ WT ∧ Cond.selects yX11_writtenAlter.cls yX11_writtenAlter yX11_writtenAlter ∈ WT ∧ vwCl[9]? = some (yX11_writtenAlter.cls, TX11, 31) := ⟨wt 1557 (by decide +kernel) rfl, wt 1558 (by decide +kernel) rfl, rfl⟩
theorem ceL_alterIn : Cond.initialized yL_alterIn.cls ∈ WT ∧ Cond.codeWith yL_alterIn (jM.cc mL_alterIn) (jM.nL mL_alterIn) (jM.ret mL_alterIn) (jM.hh mL_alterIn) ∈ WT ∧ (yL_alterIn.cls ≠ "java/lang/invoke/MethodHandle" ∧ yL_alterIn.cls ≠ "java/lang/invoke/VarHandle") ∧ (parseMethodDescriptor yL_alterIn.desc).map (fun d => d.parameters.length) = some 4 := ⟨wt 0 (by decide +kernel) rfl, wt 1034 (by decide +kernel) rfl, by decide +kernel, by decide +kernel⟩
theorem csL_alterIn : Cond.static yL_alterIn ∈ WT := wt 1033 (by decide +kernel) rfl
theorem ceX11_alterIn : jCe yX11_alterIn mX11_alterIn 2 := ⟨wt 9 (by decide +kernel) rfl, wt 1568 (by decide +kernel) rfl, by decide +kernel, by decide +kernel⟩
theorem cvX11_alterIn : Cond.instanceMethod yX11_alterIn ∈ WT ∧ Cond.selects yX11_alterIn.cls yX11_alterIn yX11_alterIn ∈ WT ∧ vwCl[9]? = some (yX11_alterIn.cls, TX11, 31) := ⟨wt 1566 (by decide +kernel) rfl, wt 1567 (by decide +kernel) rfl, rfl⟩
theorem ceL_writtenKey : Cond.initialized yL_writtenKey.cls ∈ WT ∧ Cond.codeWith yL_writtenKey (jM.cc mL_writtenKey) (jM.nL mL_writtenKey) (jM.ret mL_writtenKey) (jM.hh mL_writtenKey) ∈ WT ∧ (yL_writtenKey.cls ≠ "java/lang/invoke/MethodHandle" ∧ yL_writtenKey.cls ≠ "java/lang/invoke/VarHandle") ∧ (parseMethodDescriptor yL_writtenKey.desc).map (fun d => d.parameters.length) = some 4 := ⟨wt 0 (by decide +kernel) rfl, wt 1043 (by decide +kernel) rfl, by decide +kernel, by decide +kernel⟩
theorem csL_writtenKey : Cond.static yL_writtenKey ∈ WT := wt 1042 (by decide +kernel) rfl
theorem ceX11_writtenKey : jCe yX11_writtenKey mX11_writtenKey 2 := ⟨wt 9 (by decide +kernel) rfl, wt 1578 (by decide +kernel) rfl, by decide +kernel, by decide +kernel⟩
theorem cvX11_writtenKey : Cond.instanceMethod yX11_writtenKey ∈ WT ∧ Cond.selects yX11_writtenKey.cls yX11_writtenKey yX11_writtenKey ∈ WT ∧ vwCl[9]? = some (yX11_writtenKey.cls, TX11, 31) := ⟨wt 1576 (by decide +kernel) rfl, wt 1577 (by decide +kernel) rfl, rfl⟩
theorem ceL_beginOfBar : Cond.initialized yL_beginOfBar.cls ∈ WT ∧ Cond.codeWith yL_beginOfBar (jM.cc mL_beginOfBar) (jM.nL mL_beginOfBar) (jM.ret mL_beginOfBar) (jM.hh mL_beginOfBar) ∈ WT ∧ (yL_beginOfBar.cls ≠ "java/lang/invoke/MethodHandle" ∧ yL_beginOfBar.cls ≠ "java/lang/invoke/VarHandle") ∧ (parseMethodDescriptor yL_beginOfBar.desc).map (fun d => d.parameters.length) = some 3 := ⟨wt 0 (by decide +kernel) rfl, wt 1050 (by decide +kernel) rfl, by decide +kernel, by decide +kernel⟩
theorem csL_beginOfBar : Cond.static yL_beginOfBar ∈ WT := wt 1049 (by decide +kernel) rfl
theorem ceX11_beginOfBar : jCe yX11_beginOfBar mX11_beginOfBar 1 := ⟨wt 9 (by decide +kernel) rfl, wt 1586 (by decide +kernel) rfl, by decide +kernel, by decide +kernel⟩
theorem cvX11_beginOfBar : Cond.instanceMethod yX11_beginOfBar ∈ WT ∧ Cond.selects yX11_beginOfBar.cls yX11_beginOfBar yX11_beginOfBar ∈ WT ∧ vwCl[9]? = some (yX11_beginOfBar.cls, TX11, 31) := ⟨wt 1584 (by decide +kernel) rfl, wt 1585 (by decide +kernel) rfl, rfl⟩
theorem ceL_lengthOfBar : Cond.initialized yL_lengthOfBar.cls ∈ WT ∧ Cond.codeWith yL_lengthOfBar (jM.cc mL_lengthOfBar) (jM.nL mL_lengthOfBar) (jM.ret mL_lengthOfBar) (jM.hh mL_lengthOfBar) ∈ WT ∧ (yL_lengthOfBar.cls ≠ "java/lang/invoke/MethodHandle" ∧ yL_lengthOfBar.cls ≠ "java/lang/invoke/VarHandle") ∧ (parseMethodDescriptor yL_lengthOfBar.desc).map (fun d => d.parameters.length) = some 3 := ⟨wt 0 (by decide +kernel) rfl, wt 1057 (by decide +kernel) rfl, by decide +kernel, by decide +kernel⟩
theorem csL_lengthOfBar : Cond.static yL_lengthOfBar ∈ WT := wt 1056 (by decide +kernel) rfl
theorem ceX11_lengthOfBar : jCe yX11_lengthOfBar mX11_lengthOfBar 1 := ⟨wt 9 (by decide +kernel) rfl, wt 1590 (by decide +kernel) rfl, by decide +kernel, by decide +kernel⟩
theorem cvX11_lengthOfBar : Cond.instanceMethod yX11_lengthOfBar ∈ WT ∧ Cond.selects yX11_lengthOfBar.cls yX11_lengthOfBar yX11_lengthOfBar ∈ WT ∧ vwCl[9]? = some (yX11_lengthOfBar.cls, TX11, 31) := ⟨wt 1588 (by decide +kernel) rfl, wt 1589 (by decide +kernel) rfl, rfl⟩
theorem ceL_signs : Cond.initialized yL_signs.cls ∈ WT ∧ Cond.codeWith yL_signs (jM.cc mL_signs) (jM.nL mL_signs) (jM.ret mL_signs) (jM.hh mL_signs) ∈ WT ∧ (yL_signs.cls ≠ "java/lang/invoke/MethodHandle" ∧ yL_signs.cls ≠ "java/lang/invoke/VarHandle") ∧ (parseMethodDescriptor yL_signs.desc).map (fun d => d.parameters.length) = some 4 := ⟨wt 0 (by decide +kernel) rfl, wt 1064 (by decide +kernel) rfl, by decide +kernel, by decide +kernel⟩
theorem csL_signs : Cond.static yL_signs ∈ WT := wt 1063 (by decide +kernel) rfl
theorem ceX11_signs : jCe yX11_signs mX11_signs 2 := ⟨wt 9 (by decide +kernel) rfl, wt 1594 (by decide +kernel) rfl, by decide +kernel, by decide +kernel⟩
theorem cvX11_signs : Cond.instanceMethod yX11_signs ∈ WT ∧ Cond.selects yX11_signs.cls yX11_signs yX11_signs ∈ WT ∧ vwCl[9]? = some (yX11_signs.cls, TX11, 31) := ⟨wt 1592 (by decide +kernel) rfl, wt 1593 (by decide +kernel) rfl, rfl⟩
theorem ceL_eventOf : Cond.initialized yL_eventOf.cls ∈ WT ∧ Cond.codeWith yL_eventOf (jM.cc mL_eventOf) (jM.nL mL_eventOf) (jM.ret mL_eventOf) (jM.hh mL_eventOf) ∈ WT ∧ (yL_eventOf.cls ≠ "java/lang/invoke/MethodHandle" ∧ yL_eventOf.cls ≠ "java/lang/invoke/VarHandle") ∧ (parseMethodDescriptor yL_eventOf.desc).map (fun d => d.parameters.length) = some 5 := ⟨wt 0 (by decide +kernel) rfl, wt 1071 (by decide +kernel) rfl, by decide +kernel, by decide +kernel⟩
theorem csL_eventOf : Cond.static yL_eventOf ∈ WT := wt 1070 (by decide +kernel) rfl
theorem ceX11_eventOf : jCe yX11_eventOf mX11_eventOf 3 := ⟨wt 9 (by decide +kernel) rfl, wt 1621 (by decide +kernel) rfl, by decide +kernel, by decide +kernel⟩
theorem cvX11_eventOf : Cond.instanceMethod yX11_eventOf ∈ WT ∧ Cond.selects yX11_eventOf.cls yX11_eventOf yX11_eventOf ∈ WT ∧ vwCl[9]? = some (yX11_eventOf.cls, TX11, 31) := ⟨wt 1619 (by decide +kernel) rfl, wt 1620 (by decide +kernel) rfl, rfl⟩
theorem ceL_lengthOf : Cond.initialized yL_lengthOf.cls ∈ WT ∧ Cond.codeWith yL_lengthOf (jM.cc mL_lengthOf) (jM.nL mL_lengthOf) (jM.ret mL_lengthOf) (jM.hh mL_lengthOf) ∈ WT ∧ (yL_lengthOf.cls ≠ "java/lang/invoke/MethodHandle" ∧ yL_lengthOf.cls ≠ "java/lang/invoke/VarHandle") ∧ (parseMethodDescriptor yL_lengthOf.desc).map (fun d => d.parameters.length) = some 5 := ⟨wt 0 (by decide +kernel) rfl, wt 1084 (by decide +kernel) rfl, by decide +kernel, by decide +kernel⟩
theorem csL_lengthOf : Cond.static yL_lengthOf ∈ WT := wt 1083 (by decide +kernel) rfl
theorem ceX11_lengthOf : jCe yX11_lengthOf mX11_lengthOf 3 := ⟨wt 9 (by decide +kernel) rfl, wt 1629 (by decide +kernel) rfl, by decide +kernel, by decide +kernel⟩
theorem cvX11_lengthOf : Cond.instanceMethod yX11_lengthOf ∈ WT ∧ Cond.selects yX11_lengthOf.cls yX11_lengthOf yX11_lengthOf ∈ WT ∧ vwCl[9]? = some (yX11_lengthOf.cls, TX11, 31) := ⟨wt 1627 (by decide +kernel) rfl, wt 1628 (by decide +kernel) rfl, rfl⟩
theorem ceL_isTied : Cond.initialized yL_isTied.cls ∈ WT ∧ Cond.codeWith yL_isTied (jM.cc mL_isTied) (jM.nL mL_isTied) (jM.ret mL_isTied) (jM.hh mL_isTied) ∈ WT ∧ (yL_isTied.cls ≠ "java/lang/invoke/MethodHandle" ∧ yL_isTied.cls ≠ "java/lang/invoke/VarHandle") ∧ (parseMethodDescriptor yL_isTied.desc).map (fun d => d.parameters.length) = some 5 := ⟨wt 0 (by decide +kernel) rfl, wt 1091 (by decide +kernel) rfl, by decide +kernel, by decide +kernel⟩
theorem csL_isTied : Cond.static yL_isTied ∈ WT := wt 1090 (by decide +kernel) rfl
theorem ceX11_isTied : jCe yX11_isTied mX11_isTied 3 := ⟨wt 9 (by decide +kernel) rfl, wt 1633 (by decide +kernel) rfl, by decide +kernel, by decide +kernel⟩
theorem cvX11_isTied : Cond.instanceMethod yX11_isTied ∈ WT ∧ Cond.selects yX11_isTied.cls yX11_isTied yX11_isTied ∈ WT ∧ vwCl[9]? = some (yX11_isTied.cls, TX11, 31) := ⟨wt 1631 (by decide +kernel) rfl, wt 1632 (by decide +kernel) rfl, rfl⟩
theorem ceL_shown : Cond.initialized yL_shown.cls ∈ WT ∧ Cond.codeWith yL_shown (jM.cc mL_shown) (jM.nL mL_shown) (jM.ret mL_shown) (jM.hh mL_shown) ∈ WT ∧ (yL_shown.cls ≠ "java/lang/invoke/MethodHandle" ∧ yL_shown.cls ≠ "java/lang/invoke/VarHandle") ∧ (parseMethodDescriptor yL_shown.desc).map (fun d => d.parameters.length) = some 5 := ⟨wt 0 (by decide +kernel) rfl, wt 1098 (by decide +kernel) rfl, by decide +kernel, by decide +kernel⟩
theorem csL_shown : Cond.static yL_shown ∈ WT := wt 1097 (by decide +kernel) rfl
theorem ceX11_shown : jCe yX11_shown mX11_shown 3 := ⟨wt 9 (by decide +kernel) rfl, wt 1637 (by decide +kernel) rfl, by decide +kernel, by decide +kernel⟩
theorem cvX11_shown : Cond.instanceMethod yX11_shown ∈ WT ∧ Cond.selects yX11_shown.cls yX11_shown yX11_shown ∈ WT ∧ vwCl[9]? = some (yX11_shown.cls, TX11, 31) := ⟨wt 1635 (by decide +kernel) rfl, wt 1636 (by decide +kernel) rfl, rfl⟩
theorem ceL_shownWritten : Cond.initialized yL_shownWritten.cls ∈ WT ∧ Cond.codeWith yL_shownWritten (jM.cc mL_shownWritten) (jM.nL mL_shownWritten) (jM.ret mL_shownWritten) (jM.hh mL_shownWritten) ∈ WT ∧ (yL_shownWritten.cls ≠ "java/lang/invoke/MethodHandle" ∧ yL_shownWritten.cls ≠ "java/lang/invoke/VarHandle") ∧ (parseMethodDescriptor yL_shownWritten.desc).map (fun d => d.parameters.length) = some 5 := ⟨wt 0 (by decide +kernel) rfl, wt 1105 (by decide +kernel) rfl, by decide +kernel, by decide +kernel⟩
theorem csL_shownWritten : Cond.static yL_shownWritten ∈ WT := wt 1104 (by decide +kernel) rfl
theorem ceX11_shownWritten : jCe yX11_shownWritten mX11_shownWritten 3 := ⟨wt 9 (by decide +kernel) rfl, wt 1641 (by decide +kernel) rfl, by decide +kernel, by decide +kernel⟩
theorem cvX11_shownWritten : Cond.instanceMethod yX11_shownWritten ∈ WT ∧ Cond.selects yX11_shownWritten.cls yX11_shownWritten yX11_shownWritten ∈ WT ∧ vwCl[9]? = some (yX11_shownWritten.cls, TX11, 31) := ⟨wt 1639 (by decide +kernel) rfl, wt 1640 (by decide +kernel) rfl, rfl⟩
theorem ceL_beams : Cond.initialized yL_beams.cls ∈ WT ∧ Cond.codeWith yL_beams (jM.cc mL_beams) (jM.nL mL_beams) (jM.ret mL_beams) (jM.hh mL_beams) ∈ WT ∧ (yL_beams.cls ≠ "java/lang/invoke/MethodHandle" ∧ yL_beams.cls ≠ "java/lang/invoke/VarHandle") ∧ (parseMethodDescriptor yL_beams.desc).map (fun d => d.parameters.length) = some 4 := ⟨wt 0 (by decide +kernel) rfl, wt 1112 (by decide +kernel) rfl, by decide +kernel, by decide +kernel⟩
theorem csL_beams : Cond.static yL_beams ∈ WT := wt 1111 (by decide +kernel) rfl
theorem ceX11_beams : jCe yX11_beams mX11_beams 2 := ⟨wt 9 (by decide +kernel) rfl, wt 1645 (by decide +kernel) rfl, by decide +kernel, by decide +kernel⟩
theorem cvX11_beams : Cond.instanceMethod yX11_beams ∈ WT ∧ Cond.selects yX11_beams.cls yX11_beams yX11_beams ∈ WT ∧ vwCl[9]? = some (yX11_beams.cls, TX11, 31) := ⟨wt 1643 (by decide +kernel) rfl, wt 1644 (by decide +kernel) rfl, rfl⟩
theorem ceL_beamOf : Cond.initialized yL_beamOf.cls ∈ WT ∧ Cond.codeWith yL_beamOf (jM.cc mL_beamOf) (jM.nL mL_beamOf) (jM.ret mL_beamOf) (jM.hh mL_beamOf) ∈ WT ∧ (yL_beamOf.cls ≠ "java/lang/invoke/MethodHandle" ∧ yL_beamOf.cls ≠ "java/lang/invoke/VarHandle") ∧ (parseMethodDescriptor yL_beamOf.desc).map (fun d => d.parameters.length) = some 5 := ⟨wt 0 (by decide +kernel) rfl, wt 1119 (by decide +kernel) rfl, by decide +kernel, by decide +kernel⟩
theorem csL_beamOf : Cond.static yL_beamOf ∈ WT := wt 1118 (by decide +kernel) rfl
theorem ceX11_beamOf : jCe yX11_beamOf mX11_beamOf 3 := ⟨wt 9 (by decide +kernel) rfl, wt 1649 (by decide +kernel) rfl, by decide +kernel, by decide +kernel⟩
theorem cvX11_beamOf : Cond.instanceMethod yX11_beamOf ∈ WT ∧ Cond.selects yX11_beamOf.cls yX11_beamOf yX11_beamOf ∈ WT ∧ vwCl[9]? = some (yX11_beamOf.cls, TX11, 31) := ⟨wt 1647 (by decide +kernel) rfl, wt 1648 (by decide +kernel) rfl, rfl⟩
theorem ceL_missing : Cond.initialized yL_missing.cls ∈ WT ∧ Cond.codeWith yL_missing (jM.cc mL_missing) (jM.nL mL_missing) (jM.ret mL_missing) (jM.hh mL_missing) ∈ WT ∧ (yL_missing.cls ≠ "java/lang/invoke/MethodHandle" ∧ yL_missing.cls ≠ "java/lang/invoke/VarHandle") ∧ (parseMethodDescriptor yL_missing.desc).map (fun d => d.parameters.length) = some 4 := ⟨wt 0 (by decide +kernel) rfl, wt 1126 (by decide +kernel) rfl, by decide +kernel, by decide +kernel⟩
theorem csL_missing : Cond.static yL_missing ∈ WT := wt 1125 (by decide +kernel) rfl
theorem ceX11_missing : jCe yX11_missing mX11_missing 2 := ⟨wt 9 (by decide +kernel) rfl, wt 1653 (by decide +kernel) rfl, by decide +kernel, by decide +kernel⟩
theorem cvX11_missing : Cond.instanceMethod yX11_missing ∈ WT ∧ Cond.selects yX11_missing.cls yX11_missing yX11_missing ∈ WT ∧ vwCl[9]? = some (yX11_missing.cls, TX11, 31) := ⟨wt 1651 (by decide +kernel) rfl, wt 1652 (by decide +kernel) rfl, rfl⟩
theorem ceX9_moments : jCe yX9_moments mX9_moments 0 := ⟨wt 1 (by decide +kernel) rfl, wt 281 (by decide +kernel) rfl, by decide +kernel, by decide +kernel⟩
theorem cvX9_moments : Cond.instanceMethod yX9_moments ∈ WT ∧ Cond.selects yX9_moments.cls yX9_moments yX9_moments ∈ WT ∧ vwCl[7]? = some (yX9_moments.cls, TX9, 12) := ⟨wt 279 (by decide +kernel) rfl, wt 280 (by decide +kernel) rfl, rfl⟩
theorem ceX11_moments : jCe yX11_moments mX11_moments 0 := ⟨wt 9 (by decide +kernel) rfl, wt 1661 (by decide +kernel) rfl, by decide +kernel, by decide +kernel⟩
theorem cvX11_moments : Cond.instanceMethod yX11_moments ∈ WT ∧ Cond.selects yX11_moments.cls yX11_moments yX11_moments ∈ WT ∧ vwCl[9]? = some (yX11_moments.cls, TX11, 31) := ⟨wt 1659 (by decide +kernel) rfl, wt 1660 (by decide +kernel) rfl, rfl⟩
theorem ceL_tickOf : Cond.initialized yL_tickOf.cls ∈ WT ∧ Cond.codeWith yL_tickOf (jM.cc mL_tickOf) (jM.nL mL_tickOf) (jM.ret mL_tickOf) (jM.hh mL_tickOf) ∈ WT ∧ (yL_tickOf.cls ≠ "java/lang/invoke/MethodHandle" ∧ yL_tickOf.cls ≠ "java/lang/invoke/VarHandle") ∧ (parseMethodDescriptor yL_tickOf.desc).map (fun d => d.parameters.length) = some 3 := ⟨wt 0 (by decide +kernel) rfl, wt 1133 (by decide +kernel) rfl, by decide +kernel, by decide +kernel⟩
theorem csL_tickOf : Cond.static yL_tickOf ∈ WT := wt 1132 (by decide +kernel) rfl
theorem ceX11_tickOf : jCe yX11_tickOf mX11_tickOf 1 := ⟨wt 9 (by decide +kernel) rfl, wt 1678 (by decide +kernel) rfl, by decide +kernel, by decide +kernel⟩
theorem cvX11_tickOf : Cond.instanceMethod yX11_tickOf ∈ WT ∧ Cond.selects yX11_tickOf.cls yX11_tickOf yX11_tickOf ∈ WT ∧ vwCl[9]? = some (yX11_tickOf.cls, TX11, 31) := ⟨wt 1676 (by decide +kernel) rfl, wt 1677 (by decide +kernel) rfl, rfl⟩
theorem ceL_sounds : Cond.initialized yL_sounds.cls ∈ WT ∧ Cond.codeWith yL_sounds (jM.cc mL_sounds) (jM.nL mL_sounds) (jM.ret mL_sounds) (jM.hh mL_sounds) ∈ WT ∧ (yL_sounds.cls ≠ "java/lang/invoke/MethodHandle" ∧ yL_sounds.cls ≠ "java/lang/invoke/VarHandle") ∧ (parseMethodDescriptor yL_sounds.desc).map (fun d => d.parameters.length) = some 4 := ⟨wt 0 (by decide +kernel) rfl, wt 1146 (by decide +kernel) rfl, by decide +kernel, by decide +kernel⟩
theorem csL_sounds : Cond.static yL_sounds ∈ WT := wt 1145 (by decide +kernel) rfl
theorem ceX11_sounds : jCe yX11_sounds mX11_sounds 2 := ⟨wt 9 (by decide +kernel) rfl, wt 1686 (by decide +kernel) rfl, by decide +kernel, by decide +kernel⟩
theorem cvX11_sounds : Cond.instanceMethod yX11_sounds ∈ WT ∧ Cond.selects yX11_sounds.cls yX11_sounds yX11_sounds ∈ WT ∧ vwCl[9]? = some (yX11_sounds.cls, TX11, 31) := ⟨wt 1684 (by decide +kernel) rfl, wt 1685 (by decide +kernel) rfl, rfl⟩
theorem ceL_root : Cond.initialized yL_root.cls ∈ WT ∧ Cond.codeWith yL_root (jM.cc mL_root) (jM.nL mL_root) (jM.ret mL_root) (jM.hh mL_root) ∈ WT ∧ (yL_root.cls ≠ "java/lang/invoke/MethodHandle" ∧ yL_root.cls ≠ "java/lang/invoke/VarHandle") ∧ (parseMethodDescriptor yL_root.desc).map (fun d => d.parameters.length) = some 3 := ⟨wt 0 (by decide +kernel) rfl, wt 1153 (by decide +kernel) rfl, by decide +kernel, by decide +kernel⟩
theorem csL_root : Cond.static yL_root ∈ WT := wt 1152 (by decide +kernel) rfl
theorem ceX11_root : jCe yX11_root mX11_root 1 := ⟨wt 9 (by decide +kernel) rfl, wt 1694 (by decide +kernel) rfl, by decide +kernel, by decide +kernel⟩
theorem cvX11_root : Cond.instanceMethod yX11_root ∈ WT ∧ Cond.selects yX11_root.cls yX11_root yX11_root ∈ WT ∧ vwCl[9]? = some (yX11_root.cls, TX11, 31) := ⟨wt 1692 (by decide +kernel) rfl, wt 1693 (by decide +kernel) rfl, rfl⟩
theorem ceL_kind : Cond.initialized yL_kind.cls ∈ WT ∧ Cond.codeWith yL_kind (jM.cc mL_kind) (jM.nL mL_kind) (jM.ret mL_kind) (jM.hh mL_kind) ∈ WT ∧ (yL_kind.cls ≠ "java/lang/invoke/MethodHandle" ∧ yL_kind.cls ≠ "java/lang/invoke/VarHandle") ∧ (parseMethodDescriptor yL_kind.desc).map (fun d => d.parameters.length) = some 3 := ⟨wt 0 (by decide +kernel) rfl, wt 1160 (by decide +kernel) rfl, by decide +kernel, by decide +kernel⟩
theorem csL_kind : Cond.static yL_kind ∈ WT := wt 1159 (by decide +kernel) rfl
theorem ceX11_kind : jCe yX11_kind mX11_kind 1 := ⟨wt 9 (by decide +kernel) rfl, wt 1702 (by decide +kernel) rfl, by decide +kernel, by decide +kernel⟩
theorem cvX11_kind : Cond.instanceMethod yX11_kind ∈ WT ∧ Cond.selects yX11_kind.cls yX11_kind yX11_kind ∈ WT ∧ vwCl[9]? = some (yX11_kind.cls, TX11, 31) := ⟨wt 1700 (by decide +kernel) rfl, wt 1701 (by decide +kernel) rfl, rfl⟩
theorem ceL_inversion : Cond.initialized yL_inversion.cls ∈ WT ∧ Cond.codeWith yL_inversion (jM.cc mL_inversion) (jM.nL mL_inversion) (jM.ret mL_inversion) (jM.hh mL_inversion) ∈ WT ∧ (yL_inversion.cls ≠ "java/lang/invoke/MethodHandle" ∧ yL_inversion.cls ≠ "java/lang/invoke/VarHandle") ∧ (parseMethodDescriptor yL_inversion.desc).map (fun d => d.parameters.length) = some 3 := ⟨wt 0 (by decide +kernel) rfl, wt 1167 (by decide +kernel) rfl, by decide +kernel, by decide +kernel⟩
theorem csL_inversion : Cond.static yL_inversion ∈ WT := wt 1166 (by decide +kernel) rfl
theorem ceX11_inversion : jCe yX11_inversion mX11_inversion 1 := ⟨wt 9 (by decide +kernel) rfl, wt 1706 (by decide +kernel) rfl, by decide +kernel, by decide +kernel⟩
theorem cvX11_inversion : Cond.instanceMethod yX11_inversion ∈ WT ∧ Cond.selects yX11_inversion.cls yX11_inversion yX11_inversion ∈ WT ∧ vwCl[9]? = some (yX11_inversion.cls, TX11, 31) := ⟨wt 1704 (by decide +kernel) rfl, wt 1705 (by decide +kernel) rfl, rfl⟩
theorem ceX9_faults : jCe yX9_faults mX9_faults 0 := ⟨wt 1 (by decide +kernel) rfl, wt 324 (by decide +kernel) rfl, by decide +kernel, by decide +kernel⟩
theorem cvX9_faults : Cond.instanceMethod yX9_faults ∈ WT ∧ Cond.selects yX9_faults.cls yX9_faults yX9_faults ∈ WT ∧ vwCl[7]? = some (yX9_faults.cls, TX9, 12) := ⟨wt 322 (by decide +kernel) rfl, wt 323 (by decide +kernel) rfl, rfl⟩
theorem ceX11_faults : jCe yX11_faults mX11_faults 0 := ⟨wt 9 (by decide +kernel) rfl, wt 1710 (by decide +kernel) rfl, by decide +kernel, by decide +kernel⟩
theorem cvX11_faults : Cond.instanceMethod yX11_faults ∈ WT ∧ Cond.selects yX11_faults.cls yX11_faults yX11_faults ∈ WT ∧ vwCl[9]? = some (yX11_faults.cls, TX11, 31) := ⟨wt 1708 (by decide +kernel) rfl, wt 1709 (by decide +kernel) rfl, rfl⟩
theorem ceL_kindOfFault : Cond.initialized yL_kindOfFault.cls ∈ WT ∧ Cond.codeWith yL_kindOfFault (jM.cc mL_kindOfFault) (jM.nL mL_kindOfFault) (jM.ret mL_kindOfFault) (jM.hh mL_kindOfFault) ∈ WT ∧ (yL_kindOfFault.cls ≠ "java/lang/invoke/MethodHandle" ∧ yL_kindOfFault.cls ≠ "java/lang/invoke/VarHandle") ∧ (parseMethodDescriptor yL_kindOfFault.desc).map (fun d => d.parameters.length) = some 3 := ⟨wt 0 (by decide +kernel) rfl, wt 1174 (by decide +kernel) rfl, by decide +kernel, by decide +kernel⟩
theorem csL_kindOfFault : Cond.static yL_kindOfFault ∈ WT := wt 1173 (by decide +kernel) rfl
theorem ceX11_kindOfFault : jCe yX11_kindOfFault mX11_kindOfFault 1 := ⟨wt 9 (by decide +kernel) rfl, wt 1734 (by decide +kernel) rfl, by decide +kernel, by decide +kernel⟩
theorem cvX11_kindOfFault : Cond.instanceMethod yX11_kindOfFault ∈ WT ∧ Cond.selects yX11_kindOfFault.cls yX11_kindOfFault yX11_kindOfFault ∈ WT ∧ vwCl[9]? = some (yX11_kindOfFault.cls, TX11, 31) := ⟨wt 1732 (by decide +kernel) rfl, wt 1733 (by decide +kernel) rfl, rfl⟩
theorem ceL_tickOfFault : Cond.initialized yL_tickOfFault.cls ∈ WT ∧ Cond.codeWith yL_tickOfFault (jM.cc mL_tickOfFault) (jM.nL mL_tickOfFault) (jM.ret mL_tickOfFault) (jM.hh mL_tickOfFault) ∈ WT ∧ (yL_tickOfFault.cls ≠ "java/lang/invoke/MethodHandle" ∧ yL_tickOfFault.cls ≠ "java/lang/invoke/VarHandle") ∧ (parseMethodDescriptor yL_tickOfFault.desc).map (fun d => d.parameters.length) = some 3 := ⟨wt 0 (by decide +kernel) rfl, wt 1187 (by decide +kernel) rfl, by decide +kernel, by decide +kernel⟩
theorem csL_tickOfFault : Cond.static yL_tickOfFault ∈ WT := wt 1186 (by decide +kernel) rfl
theorem ceX11_tickOfFault : jCe yX11_tickOfFault mX11_tickOfFault 1 := ⟨wt 9 (by decide +kernel) rfl, wt 1742 (by decide +kernel) rfl, by decide +kernel, by decide +kernel⟩
theorem cvX11_tickOfFault : Cond.instanceMethod yX11_tickOfFault ∈ WT ∧ Cond.selects yX11_tickOfFault.cls yX11_tickOfFault yX11_tickOfFault ∈ WT ∧ vwCl[9]? = some (yX11_tickOfFault.cls, TX11, 31) := ⟨wt 1740 (by decide +kernel) rfl, wt 1741 (by decide +kernel) rfl, rfl⟩
theorem ceL_partsOfFault : Cond.initialized yL_partsOfFault.cls ∈ WT ∧ Cond.codeWith yL_partsOfFault (jM.cc mL_partsOfFault) (jM.nL mL_partsOfFault) (jM.ret mL_partsOfFault) (jM.hh mL_partsOfFault) ∈ WT ∧ (yL_partsOfFault.cls ≠ "java/lang/invoke/MethodHandle" ∧ yL_partsOfFault.cls ≠ "java/lang/invoke/VarHandle") ∧ (parseMethodDescriptor yL_partsOfFault.desc).map (fun d => d.parameters.length) = some 3 := ⟨wt 0 (by decide +kernel) rfl, wt 1194 (by decide +kernel) rfl, by decide +kernel, by decide +kernel⟩
theorem csL_partsOfFault : Cond.static yL_partsOfFault ∈ WT := wt 1193 (by decide +kernel) rfl
theorem ceX11_partsOfFault : jCe yX11_partsOfFault mX11_partsOfFault 1 := ⟨wt 9 (by decide +kernel) rfl, wt 1746 (by decide +kernel) rfl, by decide +kernel, by decide +kernel⟩
theorem cvX11_partsOfFault : Cond.instanceMethod yX11_partsOfFault ∈ WT ∧ Cond.selects yX11_partsOfFault.cls yX11_partsOfFault yX11_partsOfFault ∈ WT ∧ vwCl[9]? = some (yX11_partsOfFault.cls, TX11, 31) := ⟨wt 1744 (by decide +kernel) rfl, wt 1745 (by decide +kernel) rfl, rfl⟩
theorem ceL_faultsIfUp : Cond.initialized yL_faultsIfUp.cls ∈ WT ∧ Cond.codeWith yL_faultsIfUp (jM.cc mL_faultsIfUp) (jM.nL mL_faultsIfUp) (jM.ret mL_faultsIfUp) (jM.hh mL_faultsIfUp) ∈ WT ∧ (yL_faultsIfUp.cls ≠ "java/lang/invoke/MethodHandle" ∧ yL_faultsIfUp.cls ≠ "java/lang/invoke/VarHandle") ∧ (parseMethodDescriptor yL_faultsIfUp.desc).map (fun d => d.parameters.length) = some 4 := ⟨wt 0 (by decide +kernel) rfl, wt 1201 (by decide +kernel) rfl, by decide +kernel, by decide +kernel⟩
theorem csL_faultsIfUp : Cond.static yL_faultsIfUp ∈ WT := wt 1200 (by decide +kernel) rfl
theorem ceX11_faultsIfUp : jCe yX11_faultsIfUp mX11_faultsIfUp 2 := ⟨wt 9 (by decide +kernel) rfl, wt 1750 (by decide +kernel) rfl, by decide +kernel, by decide +kernel⟩
theorem cvX11_faultsIfUp : Cond.instanceMethod yX11_faultsIfUp ∈ WT ∧ Cond.selects yX11_faultsIfUp.cls yX11_faultsIfUp yX11_faultsIfUp ∈ WT ∧ vwCl[9]? = some (yX11_faultsIfUp.cls, TX11, 31) := ⟨wt 1748 (by decide +kernel) rfl, wt 1749 (by decide +kernel) rfl, rfl⟩
theorem ceX11_bars : jCe yX11_bars mX11_bars 0 := ⟨wt 9 (by decide +kernel) rfl, wt 1754 (by decide +kernel) rfl, by decide +kernel, by decide +kernel⟩
theorem cvX11_bars : Cond.instanceMethod yX11_bars ∈ WT ∧ Cond.selects yX11_bars.cls yX11_bars yX11_bars ∈ WT ∧ vwCl[9]? = some (yX11_bars.cls, TX11, 31) := ⟨wt 1752 (by decide +kernel) rfl, wt 1753 (by decide +kernel) rfl, rfl⟩
theorem ceL_widthOf : Cond.initialized yL_widthOf.cls ∈ WT ∧ Cond.codeWith yL_widthOf (jM.cc mL_widthOf) (jM.nL mL_widthOf) (jM.ret mL_widthOf) (jM.hh mL_widthOf) ∈ WT ∧ (yL_widthOf.cls ≠ "java/lang/invoke/MethodHandle" ∧ yL_widthOf.cls ≠ "java/lang/invoke/VarHandle") ∧ (parseMethodDescriptor yL_widthOf.desc).map (fun d => d.parameters.length) = some 3 := ⟨wt 0 (by decide +kernel) rfl, wt 1210 (by decide +kernel) rfl, by decide +kernel, by decide +kernel⟩
theorem csL_widthOf : Cond.static yL_widthOf ∈ WT := wt 1209 (by decide +kernel) rfl
theorem ceX11_widthOf : jCe yX11_widthOf mX11_widthOf 1 := ⟨wt 9 (by decide +kernel) rfl, wt 1762 (by decide +kernel) rfl, by decide +kernel, by decide +kernel⟩
theorem cvX11_widthOf : Cond.instanceMethod yX11_widthOf ∈ WT ∧ Cond.selects yX11_widthOf.cls yX11_widthOf yX11_widthOf ∈ WT ∧ vwCl[9]? = some (yX11_widthOf.cls, TX11, 31) := ⟨wt 1760 (by decide +kernel) rfl, wt 1761 (by decide +kernel) rfl, rfl⟩
theorem ceL_lines : Cond.initialized yL_lines.cls ∈ WT ∧ Cond.codeWith yL_lines (jM.cc mL_lines) (jM.nL mL_lines) (jM.ret mL_lines) (jM.hh mL_lines) ∈ WT ∧ (yL_lines.cls ≠ "java/lang/invoke/MethodHandle" ∧ yL_lines.cls ≠ "java/lang/invoke/VarHandle") ∧ (parseMethodDescriptor yL_lines.desc).map (fun d => d.parameters.length) = some 3 := ⟨wt 0 (by decide +kernel) rfl, wt 1217 (by decide +kernel) rfl, by decide +kernel, by decide +kernel⟩
theorem csL_lines : Cond.static yL_lines ∈ WT := wt 1216 (by decide +kernel) rfl
theorem ceX11_lines : jCe yX11_lines mX11_lines 1 := ⟨wt 9 (by decide +kernel) rfl, wt 1770 (by decide +kernel) rfl, by decide +kernel, by decide +kernel⟩
theorem cvX11_lines : Cond.instanceMethod yX11_lines ∈ WT ∧ Cond.selects yX11_lines.cls yX11_lines yX11_lines ∈ WT ∧ vwCl[9]? = some (yX11_lines.cls, TX11, 31) := ⟨wt 1768 (by decide +kernel) rfl, wt 1769 (by decide +kernel) rfl, rfl⟩
theorem ceL_lineOf : Cond.initialized yL_lineOf.cls ∈ WT ∧ Cond.codeWith yL_lineOf (jM.cc mL_lineOf) (jM.nL mL_lineOf) (jM.ret mL_lineOf) (jM.hh mL_lineOf) ∈ WT ∧ (yL_lineOf.cls ≠ "java/lang/invoke/MethodHandle" ∧ yL_lineOf.cls ≠ "java/lang/invoke/VarHandle") ∧ (parseMethodDescriptor yL_lineOf.desc).map (fun d => d.parameters.length) = some 4 := ⟨wt 0 (by decide +kernel) rfl, wt 1228 (by decide +kernel) rfl, by decide +kernel, by decide +kernel⟩
theorem csL_lineOf : Cond.static yL_lineOf ∈ WT := wt 1227 (by decide +kernel) rfl
theorem ceX11_lineOf : jCe yX11_lineOf mX11_lineOf 2 := ⟨wt 9 (by decide +kernel) rfl, wt 1782 (by decide +kernel) rfl, by decide +kernel, by decide +kernel⟩
theorem cvX11_lineOf : Cond.instanceMethod yX11_lineOf ∈ WT ∧ Cond.selects yX11_lineOf.cls yX11_lineOf yX11_lineOf ∈ WT ∧ vwCl[9]? = some (yX11_lineOf.cls, TX11, 31) := ⟨wt 1780 (by decide +kernel) rfl, wt 1781 (by decide +kernel) rfl, rfl⟩
theorem ceL_costOf : Cond.initialized yL_costOf.cls ∈ WT ∧ Cond.codeWith yL_costOf (jM.cc mL_costOf) (jM.nL mL_costOf) (jM.ret mL_costOf) (jM.hh mL_costOf) ∈ WT ∧ (yL_costOf.cls ≠ "java/lang/invoke/MethodHandle" ∧ yL_costOf.cls ≠ "java/lang/invoke/VarHandle") ∧ (parseMethodDescriptor yL_costOf.desc).map (fun d => d.parameters.length) = some 3 := ⟨wt 0 (by decide +kernel) rfl, wt 1239 (by decide +kernel) rfl, by decide +kernel, by decide +kernel⟩
theorem csL_costOf : Cond.static yL_costOf ∈ WT := wt 1238 (by decide +kernel) rfl
theorem ceX11_costOf : jCe yX11_costOf mX11_costOf 1 := ⟨wt 9 (by decide +kernel) rfl, wt 1786 (by decide +kernel) rfl, by decide +kernel, by decide +kernel⟩
theorem cvX11_costOf : Cond.instanceMethod yX11_costOf ∈ WT ∧ Cond.selects yX11_costOf.cls yX11_costOf yX11_costOf ∈ WT ∧ vwCl[9]? = some (yX11_costOf.cls, TX11, 31) := ⟨wt 1784 (by decide +kernel) rfl, wt 1785 (by decide +kernel) rfl, rfl⟩
theorem ceX9_meanHeight : jCe yX9_meanHeight mX9_meanHeight 0 := ⟨wt 1 (by decide +kernel) rfl, wt 419 (by decide +kernel) rfl, by decide +kernel, by decide +kernel⟩
theorem cvX9_meanHeight : Cond.instanceMethod yX9_meanHeight ∈ WT ∧ Cond.selects yX9_meanHeight.cls yX9_meanHeight yX9_meanHeight ∈ WT ∧ vwCl[7]? = some (yX9_meanHeight.cls, TX9, 12) := ⟨wt 417 (by decide +kernel) rfl, wt 418 (by decide +kernel) rfl, rfl⟩
theorem ceX11_meanHeight : jCe yX11_meanHeight mX11_meanHeight 0 := ⟨wt 9 (by decide +kernel) rfl, wt 1794 (by decide +kernel) rfl, by decide +kernel, by decide +kernel⟩
theorem cvX11_meanHeight : Cond.instanceMethod yX11_meanHeight ∈ WT ∧ Cond.selects yX11_meanHeight.cls yX11_meanHeight yX11_meanHeight ∈ WT ∧ vwCl[9]? = some (yX11_meanHeight.cls, TX11, 31) := ⟨wt 1792 (by decide +kernel) rfl, wt 1793 (by decide +kernel) rfl, rfl⟩
theorem ceX9_digest : jCe yX9_digest mX9_digest 0 := ⟨wt 1 (by decide +kernel) rfl, wt 433 (by decide +kernel) rfl, by decide +kernel, by decide +kernel⟩
theorem cvX9_digest : Cond.instanceMethod yX9_digest ∈ WT ∧ Cond.selects yX9_digest.cls yX9_digest yX9_digest ∈ WT ∧ vwCl[7]? = some (yX9_digest.cls, TX9, 12) := ⟨wt 431 (by decide +kernel) rfl, wt 432 (by decide +kernel) rfl, rfl⟩
theorem ceX11_digest : jCe yX11_digest mX11_digest 0 := ⟨wt 9 (by decide +kernel) rfl, wt 1798 (by decide +kernel) rfl, by decide +kernel, by decide +kernel⟩
theorem cvX11_digest : Cond.instanceMethod yX11_digest ∈ WT ∧ Cond.selects yX11_digest.cls yX11_digest yX11_digest ∈ WT ∧ vwCl[9]? = some (yX11_digest.cls, TX11, 31) := ⟨wt 1796 (by decide +kernel) rfl, wt 1797 (by decide +kernel) rfl, rfl⟩
theorem kX9_3 : Cond.methodLink RX9 3 objectInit ∈ WT ∧ Cond.instanceMethod objectInit ∈ WT ∧ Cond.code objectInit ⟨#[0xb1]⟩ 1 none ∈ WT := ⟨wt 28 (by decide +kernel) rfl, wt 29 (by decide +kernel) rfl, wt 30 (by decide +kernel) rfl⟩
theorem kX9_15 : jLk RX9 15 yX6_init mX6_init 0 := jLk.mk (wt 34 (by decide +kernel) rfl) ceX6_init
theorem kX9_18 : jLk RX9 18 yX0_init mX0_init 0 := jLk.mk (wt 81 (by decide +kernel) rfl) ceX0_init
theorem kX9_25 : jLk RX9 25 yX5_init mX5_init 0 := jLk.mk (wt 114 (by decide +kernel) rfl) ceX5_init
theorem kX9_32 : jLk RX9 32 yX3_init mX3_init 0 := jLk.mk (wt 155 (by decide +kernel) rfl) ceX3_init
theorem kX9_39 : jLk RX9 39 yX1_init mX1_init 0 := jLk.mk (wt 174 (by decide +kernel) rfl) ceX1_init
theorem kX9_46 : jLk RX9 46 yX2_init mX2_init 0 := jLk.mk (wt 190 (by decide +kernel) rfl) ceX2_init
theorem kX9_53 : jLk RX9 53 yX4_init mX4_init 0 := jLk.mk (wt 221 (by decide +kernel) rfl) ceX4_init
theorem kX9_75 : jLk RX9 75 yX9_partAt mX9_partAt 1 := jLk.mk (wt 495 (by decide +kernel) rfl) ceX9_partAt
theorem kX9_79 : jLk RX9 79 yX9_checkPitch mX9_checkPitch 2 := jLk.mk (wt 815 (by decide +kernel) rfl) ceX9_checkPitch
theorem kX9_83 : jLk RX9 83 yX9_checkValue mX9_checkValue 1 := jLk.mk (wt 837 (by decide +kernel) rfl) ceX9_checkValue
theorem kX9_87 : jLk RX9 87 yX9_checkRoom mX9_checkRoom 2 := jLk.mk (wt 844 (by decide +kernel) rfl) ceX9_checkRoom
theorem kX9_91 : jLk RX9 91 yX9_forgetWhatFollows mX9_forgetWhatFollows 0 := jLk.mk (wt 869 (by decide +kernel) rfl) ceX9_forgetWhatFollows
theorem kX9_94 : jLk RX9 94 yX6_append mX6_append 3 := jLk.mk (wt 873 (by decide +kernel) rfl) ceX6_append
theorem kX9_98 : jLk RX9 98 yX6_size mX6_size 0 := jLk.mk (wt 462 (by decide +kernel) rfl) ceX6_size
theorem kX9_109 : jLk RX9 109 yX6_removeLast mX6_removeLast 0 := jLk.mk (wt 910 (by decide +kernel) rfl) ceX6_removeLast
theorem kX9_112 : jLk RX9 112 yX9_partWith mX9_partWith 2 := jLk.mk (wt 921 (by decide +kernel) rfl) ceX9_partWith
theorem kX9_116 : jLk RX9 116 yX9_checkNote mX9_checkNote 2 := jLk.mk (wt 927 (by decide +kernel) rfl) ceX9_checkNote
theorem kX9_119 : jLk RX9 119 yX6_heightAt mX6_heightAt 1 := jLk.mk (wt 471 (by decide +kernel) rfl) ceX6_heightAt
theorem kX9_123 : jLk RX9 123 yX6_givePitch mX6_givePitch 3 := jLk.mk (wt 932 (by decide +kernel) rfl) ceX6_givePitch
theorem kX9_127 : jLk RX9 127 yX9_checkBar mX9_checkBar 1 := jLk.mk (wt 567 (by decide +kernel) rfl) ceX9_checkBar
theorem kX9_135 : jLk RX9 135 yX0_changeMetre mX0_changeMetre 3 := jLk.mk (wt 941 (by decide +kernel) rfl) ceX0_changeMetre
theorem kX9_138 : jLk RX9 138 yX0_lengthAt mX0_lengthAt 1 := jLk.mk (wt 486 (by decide +kernel) rfl) ceX0_lengthAt
theorem kX9_141 : jLk RX9 141 yX9_checkKey mX9_checkKey 1 := jLk.mk (wt 949 (by decide +kernel) rfl) ceX9_checkKey
theorem kX9_144 : jLk RX9 144 yX0_keyAt mX0_keyAt 1 := jLk.mk (wt 673 (by decide +kernel) rfl) ceX0_keyAt
theorem kX9_147 : jLk RX9 147 yX0_changeKey mX0_changeKey 2 := jLk.mk (wt 953 (by decide +kernel) rfl) ceX0_changeKey
theorem kX9_152 : jLk RX9 152 yX6_changeRange mX6_changeRange 2 := jLk.mk (wt 965 (by decide +kernel) rfl) ceX6_changeRange
theorem kX9_155 : jLk RX9 155 yX6_notesOutOfRange mX6_notesOutOfRange 0 := jLk.mk (wt 969 (by decide +kernel) rfl) ceX6_notesOutOfRange
theorem kX9_160 : jLk RX9 160 yX6_changeShift mX6_changeShift 2 := jLk.mk (wt 982 (by decide +kernel) rfl) ceX6_changeShift
theorem kX9_163 : jLk RX9 163 yX6_notesWithoutWrittenPitch mX6_notesWithoutWrittenPitch 0 := jLk.mk (wt 986 (by decide +kernel) rfl) ceX6_notesWithoutWrittenPitch
theorem kX9_166 : jLk RX9 166 yX6_beginAt mX6_beginAt 1 := jLk.mk (wt 470 (by decide +kernel) rfl) ceX6_beginAt
theorem kX9_169 : jLk RX9 169 yX0_barAt mX0_barAt 1 := jLk.mk (wt 472 (by decide +kernel) rfl) ceX0_barAt
theorem kX9_172 : jLk RX9 172 yX6_writtenPlaceAt mX6_writtenPlaceAt 1 := jLk.mk (wt 473 (by decide +kernel) rfl) ceX6_writtenPlaceAt
theorem kX9_175 : jLk RX9 175 yX6_writtenAlterAt mX6_writtenAlterAt 1 := jLk.mk (wt 477 (by decide +kernel) rfl) ceX6_writtenAlterAt
theorem kX9_180 : jLk RX9 180 yX7_alterByKey mX7_alterByKey 2 := jLk.mk (wt 1040 (by decide +kernel) rfl) ceX7_alterByKey
theorem kX9_186 : jLk RX9 186 yX6_keyAsWritten mX6_keyAsWritten 1 := jLk.mk (wt 674 (by decide +kernel) rfl) ceX6_keyAsWritten
theorem kX9_189 : jLk RX9 189 yX0_beginAt mX0_beginAt 1 := jLk.mk (wt 485 (by decide +kernel) rfl) ceX0_beginAt
theorem kX9_190 : jLk RX9 190 yX9_measureAt mX9_measureAt 2 := jLk.mk (wt 491 (by decide +kernel) rfl) ceX9_measureAt
theorem kX9_194 : jLk RX9 194 yX5_size mX5_size 0 := jLk.mk (wt 658 (by decide +kernel) rfl) ceX5_size
theorem kX9_195 : jLk RX9 195 yX9_measureWith mX9_measureWith 3 := jLk.mk (wt 1076 (by decide +kernel) rfl) ceX9_measureWith
theorem kX9_199 : jLk RX9 199 yX5_eventAt mX5_eventAt 1 := jLk.mk (wt 679 (by decide +kernel) rfl) ceX5_eventAt
theorem kX9_202 : jLk RX9 202 yX5_lengthAt mX5_lengthAt 1 := jLk.mk (wt 683 (by decide +kernel) rfl) ceX5_lengthAt
theorem kX9_203 : jLk RX9 203 yX5_tiedAt mX5_tiedAt 1 := jLk.mk (wt 687 (by decide +kernel) rfl) ceX5_tiedAt
theorem kX9_207 : jLk RX9 207 yX5_shownAt mX5_shownAt 1 := jLk.mk (wt 691 (by decide +kernel) rfl) ceX5_shownAt
theorem kX9_210 : jLk RX9 210 yX5_shownAsWrittenAt mX5_shownAsWrittenAt 1 := jLk.mk (wt 695 (by decide +kernel) rfl) ceX5_shownAsWrittenAt
theorem kX9_213 : jLk RX9 213 yX5_beamTotal mX5_beamTotal 0 := jLk.mk (wt 662 (by decide +kernel) rfl) ceX5_beamTotal
theorem kX9_216 : jLk RX9 216 yX5_beamAt mX5_beamAt 1 := jLk.mk (wt 699 (by decide +kernel) rfl) ceX5_beamAt
theorem kX9_219 : jLk RX9 219 yX6_end mX6_end 0 := jLk.mk (wt 401 (by decide +kernel) rfl) ceX6_end
theorem kX9_222 : jLk RX9 222 yX0_ticksBehind mX0_ticksBehind 2 := jLk.mk (wt 666 (by decide +kernel) rfl) ceX0_ticksBehind
theorem kX9_225 : jLk RX9 225 yX9_hear mX9_hear 0 := jLk.mk (wt 282 (by decide +kernel) rfl) ceX9_hear
theorem kX9_228 : jLk RX9 228 yX3_size mX3_size 0 := jLk.mk (wt 317 (by decide +kernel) rfl) ceX3_size
theorem kX9_229 : jLk RX9 229 yX9_checkMoment mX9_checkMoment 1 := jLk.mk (wt 1138 (by decide +kernel) rfl) ceX9_checkMoment
theorem kX9_232 : jLk RX9 232 yX3_tickAt mX3_tickAt 1 := jLk.mk (wt 707 (by decide +kernel) rfl) ceX3_tickAt
theorem kX9_235 : jLk RX9 235 yX3_eventAt mX3_eventAt 2 := jLk.mk (wt 708 (by decide +kernel) rfl) ceX3_eventAt
theorem kX9_237 : jLk RX9 237 yX9_chordAt mX9_chordAt 1 := jLk.mk (wt 709 (by decide +kernel) rfl) ceX9_chordAt
theorem kX9_241 : jLk RX9 241 yX1_rootClass mX1_rootClass 0 := jLk.mk (wt 742 (by decide +kernel) rfl) ceX1_rootClass
theorem kX9_244 : jLk RX9 244 yX1_kindNumber mX1_kindNumber 0 := jLk.mk (wt 746 (by decide +kernel) rfl) ceX1_kindNumber
theorem kX9_247 : jLk RX9 247 yX1_lowestTone mX1_lowestTone 0 := jLk.mk (wt 750 (by decide +kernel) rfl) ceX1_lowestTone
theorem kX9_250 : jLk RX9 250 yX9_searchFaults mX9_searchFaults 0 := jLk.mk (wt 325 (by decide +kernel) rfl) ceX9_searchFaults
theorem kX9_253 : jLk RX9 253 yX2_size mX2_size 0 := jLk.mk (wt 389 (by decide +kernel) rfl) ceX2_size
theorem kX9_254 : jLk RX9 254 yX9_checkFault mX9_checkFault 1 := jLk.mk (wt 1179 (by decide +kernel) rfl) ceX9_checkFault
theorem kX9_257 : jLk RX9 257 yX2_kindAt mX2_kindAt 1 := jLk.mk (wt 758 (by decide +kernel) rfl) ceX2_kindAt
theorem kX9_260 : jLk RX9 260 yX2_tickAt mX2_tickAt 1 := jLk.mk (wt 766 (by decide +kernel) rfl) ceX2_tickAt
theorem kX9_261 : jLk RX9 261 yX2_partsAt mX2_partsAt 1 := jLk.mk (wt 770 (by decide +kernel) rfl) ceX2_partsAt
theorem kX9_264 : jLk RX9 264 yX6_placeAt mX6_placeAt 1 := jLk.mk (wt 1206 (by decide +kernel) rfl) ceX6_placeAt
theorem kX9_267 : jLk RX9 267 yX6_alterAt mX6_alterAt 1 := jLk.mk (wt 1207 (by decide +kernel) rfl) ceX6_alterAt
theorem kX9_270 : jLk RX9 270 yX2_search mX2_search 2 := jLk.mk (wt 329 (by decide +kernel) rfl) ceX2_search
theorem kX9_274 : jLk RX9 274 yX9_lastEnd mX9_lastEnd 0 := jLk.mk (wt 397 (by decide +kernel) rfl) ceX9_lastEnd
theorem kX9_277 : jLk RX9 277 yX0_barsUpTo mX0_barsUpTo 1 := jLk.mk (wt 408 (by decide +kernel) rfl) ceX0_barsUpTo
theorem kX9_280 : jLk RX9 280 yX9_measureWidths mX9_measureWidths 0 := jLk.mk (wt 434 (by decide +kernel) rfl) ceX9_measureWidths
theorem kX9_283 : jLk RX9 283 yX4_widthAt mX4_widthAt 1 := jLk.mk (wt 487 (by decide +kernel) rfl) ceX4_widthAt
theorem kX9_286 : jLk RX9 286 yX9_checkWidth mX9_checkWidth 1 := jLk.mk (wt 1222 (by decide +kernel) rfl) ceX9_checkWidth
theorem kX9_289 : jLk RX9 289 yX9_breakLines mX9_breakLines 1 := jLk.mk (wt 779 (by decide +kernel) rfl) ceX9_breakLines
theorem kX9_292 : jLk RX9 292 yX4_size mX4_size 0 := jLk.mk (wt 797 (by decide +kernel) rfl) ceX4_size
theorem kX9_293 : jLk RX9 293 yX4_lineAt mX4_lineAt 1 := jLk.mk (wt 1233 (by decide +kernel) rfl) ceX4_lineAt
theorem kX9_296 : jLk RX9 296 yX4_leastCost mX4_leastCost 0 := jLk.mk (wt 801 (by decide +kernel) rfl) ceX4_leastCost
theorem kX9_299 : jLk RX9 299 yX6_sumOfHeights mX6_sumOfHeights 0 := jLk.mk (wt 420 (by decide +kernel) rfl) ceX6_sumOfHeights
theorem kX9_302 : jLk RX9 302 yX6_notes mX6_notes 0 := jLk.mk (wt 426 (by decide +kernel) rfl) ceX6_notes
theorem kX9_307 : jLk RX9 307 yX9_mixPart mX9_mixPart 2 := jLk.mk (wt 458 (by decide +kernel) rfl) ceX9_mixPart
theorem kX9_311 : jLk RX9 311 yX9_mixBar mX9_mixBar 2 := jLk.mk (wt 481 (by decide +kernel) rfl) ceX9_mixBar
theorem kX9_315 : jLk RX9 315 yX9_mixMoments mX9_mixMoments 1 := jLk.mk (wt 703 (by decide +kernel) rfl) ceX9_mixMoments
theorem kX9_319 : jLk RX9 319 yX9_mixFaults mX9_mixFaults 1 := jLk.mk (wt 754 (by decide +kernel) rfl) ceX9_mixFaults
theorem kX9_322 : jLk RX9 322 yX9_bars mX9_bars 0 := jLk.mk (wt 774 (by decide +kernel) rfl) ceX9_bars
theorem kX9_325 : jLk RX9 325 yX9_mix mX9_mix 2 := jLk.mk (wt 466 (by decide +kernel) rfl) ceX9_mix
theorem kX9_329 : jLk RX9 329 yX9_mixLines mX9_mixLines 2 := jLk.mk (wt 775 (by decide +kernel) rfl) ceX9_mixLines
theorem kX9_334 : jLk RX9 334 yX9_mixSigns mX9_mixSigns 2 := jLk.mk (wt 675 (by decide +kernel) rfl) ceX9_mixSigns
theorem kX9_338 : jLk RX9 338 yX3_listen mX3_listen 1 := jLk.mk (wt 286 (by decide +kernel) rfl) ceX3_listen
theorem kX9_342 : jLk RX9 342 yX4_measureWidths mX4_measureWidths 2 := jLk.mk (wt 438 (by decide +kernel) rfl) ceX4_measureWidths
theorem kX9_345 : jLk RX9 345 yX4_breakUp mX4_breakUp 2 := jLk.mk (wt 783 (by decide +kernel) rfl) ceX4_breakUp
theorem kX9_348 : Cond.methodLink RX9 348 Lib.Math.max.name ∈ WT ∧ Cond.static Lib.Math.max.name ∈ WT ∧ Cond.initialized "java/lang/Math" ∈ WT ∧ Cond.code Lib.Math.max.name Lib.Math.max.code 2 (some .int) ∈ WT := ⟨wt 405 (by decide +kernel) rfl, wt 406 (by decide +kernel) rfl, wt 20 (by decide +kernel) rfl, wt 407 (by decide +kernel) rfl⟩
theorem kX9_358 : jLk RX9 358 yX6_has mX6_has 1 := jLk.mk (wt 925 (by decide +kernel) rfl) ceX6_has
theorem kX9_363 : jLk RX9 363 yX5_write mX5_write 3 := jLk.mk (wt 571 (by decide +kernel) rfl) ceX5_write
theorem kX9_367 : jLk RX9 367 yX5_has mX5_has 1 := jLk.mk (wt 1080 (by decide +kernel) rfl) ceX5_has
theorem kX9_370 : jLk RX9 370 yX1_tell mX1_tell 3 := jLk.mk (wt 713 (by decide +kernel) rfl) ceX1_tell
theorem kX9_374 : jLk RX9 374 yX3_has mX3_has 1 := jLk.mk (wt 1142 (by decide +kernel) rfl) ceX3_has
theorem kX9_377 : jLk RX9 377 yX2_has mX2_has 1 := jLk.mk (wt 1183 (by decide +kernel) rfl) ceX2_has
theorem kX9_380 : jLk RX9 380 yX9_allEvents mX9_allEvents 0 := jLk.mk (wt 848 (by decide +kernel) rfl) ceX9_allEvents
theorem kX9_383 : jLk RX9 383 yX0_end mX0_end 0 := jLk.mk (wt 852 (by decide +kernel) rfl) ceX0_end
theorem kX9_386 : jLk RX9 386 yX6_isNote mX6_isNote 1 := jLk.mk (wt 930 (by decide +kernel) rfl) ceX6_isNote
theorem kX9_393 : jLk RX9 393 yX7_isPitch mX7_isPitch 2 := jLk.mk (wt 818 (by decide +kernel) rfl) ceX7_isPitch
theorem kX9_399 : jLk RX9 399 yX8_isValue mX8_isValue 1 := jLk.mk (wt 840 (by decide +kernel) rfl) ceX8_isValue
theorem kX0_3 : Cond.methodLink RX0 3 objectInit ∈ WT ∧ Cond.instanceMethod objectInit ∈ WT ∧ Cond.code objectInit ⟨#[0xb1]⟩ 1 none ∈ WT := ⟨wt 84 (by decide +kernel) rfl, wt 29 (by decide +kernel) rfl, wt 30 (by decide +kernel) rfl⟩
theorem kX0_24 : jLk RX0 24 yX0_changeMetre mX0_changeMetre 3 := jLk.mk (wt 85 (by decide +kernel) rfl) ceX0_changeMetre
theorem kX0_28 : jLk RX0 28 yX0_isBar mX0_isBar 1 := jLk.mk (wt 89 (by decide +kernel) rfl) ceX0_isBar
theorem kX0_32 : jLk RX0 32 yX0_beginAt mX0_beginAt 1 := jLk.mk (wt 92 (by decide +kernel) rfl) ceX0_beginAt
theorem kX0_40 : jLk RX0 40 yX0_barAt mX0_barAt 1 := jLk.mk (wt 412 (by decide +kernel) rfl) ceX0_barAt
theorem kX0_43 : jLk RX0 43 yX0_lengthAt mX0_lengthAt 1 := jLk.mk (wt 670 (by decide +kernel) rfl) ceX0_lengthAt
theorem kX0_46 : Cond.methodLink RX0 46 Lib.Math.min.name ∈ WT ∧ Cond.static Lib.Math.min.name ∈ WT ∧ Cond.initialized "java/lang/Math" ∈ WT ∧ Cond.code Lib.Math.min.name Lib.Math.min.code 2 (some .int) ∈ WT := ⟨wt 671 (by decide +kernel) rfl, wt 307 (by decide +kernel) rfl, wt 20 (by decide +kernel) rfl, wt 308 (by decide +kernel) rfl⟩
theorem kX0_52 : Cond.methodLink RX0 52 Lib.Math.max.name ∈ WT ∧ Cond.static Lib.Math.max.name ∈ WT ∧ Cond.initialized "java/lang/Math" ∈ WT ∧ Cond.code Lib.Math.max.name Lib.Math.max.code 2 (some .int) ∈ WT := ⟨wt 672 (by decide +kernel) rfl, wt 406 (by decide +kernel) rfl, wt 20 (by decide +kernel) rfl, wt 407 (by decide +kernel) rfl⟩
theorem kX1_3 : Cond.methodLink RX1 3 objectInit ∈ WT ∧ Cond.instanceMethod objectInit ∈ WT ∧ Cond.code objectInit ⟨#[0xb1]⟩ 1 none ∈ WT := ⟨wt 177 (by decide +kernel) rfl, wt 29 (by decide +kernel) rfl, wt 30 (by decide +kernel) rfl⟩
theorem kX1_21 : jLk RX1 21 yX3_eventAt mX3_eventAt 2 := jLk.mk (wt 717 (by decide +kernel) rfl) ceX3_eventAt
theorem kX1_27 : jLk RX1 27 yX6_heightAt mX6_heightAt 1 := jLk.mk (wt 718 (by decide +kernel) rfl) ceX6_heightAt
theorem kX1_33 : Cond.methodLink RX1 33 Lib.Math.min.name ∈ WT ∧ Cond.static Lib.Math.min.name ∈ WT ∧ Cond.initialized "java/lang/Math" ∈ WT ∧ Cond.code Lib.Math.min.name Lib.Math.min.code 2 (some .int) ∈ WT := ⟨wt 719 (by decide +kernel) rfl, wt 307 (by decide +kernel) rfl, wt 20 (by decide +kernel) rfl, wt 308 (by decide +kernel) rfl⟩
theorem kX1_38 : jLk RX1 38 yX1_forget mX1_forget 0 := jLk.mk (wt 720 (by decide +kernel) rfl) ceX1_forget
theorem kX1_41 : jLk RX1 41 yJ6_bitCount_0f7a4 mJ6_bitCount_0f7a4 1 := jLk.mk (wt 724 (by decide +kernel) rfl) ceJ6_bitCount_0f7a4
theorem kX1_46 : jLk RX1 46 yX1_findRoot mX1_findRoot 2 := jLk.mk (wt 730 (by decide +kernel) rfl) ceX1_findRoot
theorem kX1_50 : jLk RX1 50 yX1_findKind mX1_findKind 3 := jLk.mk (wt 734 (by decide +kernel) rfl) ceX1_findKind
theorem kX2_3 : Cond.methodLink RX2 3 objectInit ∈ WT ∧ Cond.instanceMethod objectInit ∈ WT ∧ Cond.code objectInit ⟨#[0xb1]⟩ 1 none ∈ WT := ⟨wt 193 (by decide +kernel) rfl, wt 29 (by decide +kernel) rfl, wt 30 (by decide +kernel) rfl⟩
theorem kX2_38 : jLk RX2 38 yX2_has mX2_has 1 := jLk.mk (wt 762 (by decide +kernel) rfl) ceX2_has
theorem kX2_42 : jLk RX2 42 yJ7_fill_53178 mJ7_fill_53178 2 := jLk.mk (wt 333 (by decide +kernel) rfl) ceJ7_fill_53178
theorem kX2_48 : jLk RX2 48 yX3_size mX3_size 0 := jLk.mk (wt 334 (by decide +kernel) rfl) ceX3_size
theorem kX2_54 : jLk RX2 54 yX3_tickAt mX3_tickAt 1 := jLk.mk (wt 335 (by decide +kernel) rfl) ceX3_tickAt
theorem kX2_58 : jLk RX2 58 yX2_goOn mX2_goOn 3 := jLk.mk (wt 343 (by decide +kernel) rfl) ceX2_goOn
theorem kX2_62 : jLk RX2 62 yX2_searchParallels mX2_searchParallels 1 := jLk.mk (wt 363 (by decide +kernel) rfl) ceX2_searchParallels
theorem kX2_66 : jLk RX2 66 yX2_searchCrossings mX2_searchCrossings 1 := jLk.mk (wt 374 (by decide +kernel) rfl) ceX2_searchCrossings
theorem kX2_69 : jLk RX2 69 yX3_eventAt mX3_eventAt 2 := jLk.mk (wt 347 (by decide +kernel) rfl) ceX3_eventAt
theorem kX2_73 : jLk RX2 73 yX2_searchNote mX2_searchNote 3 := jLk.mk (wt 378 (by decide +kernel) rfl) ceX2_searchNote
theorem kX2_77 : jLk RX2 77 yX6_heightAt mX6_heightAt 1 := jLk.mk (wt 351 (by decide +kernel) rfl) ceX6_heightAt
theorem kX2_82 : jLk RX2 82 yX6_isNote mX6_isNote 1 := jLk.mk (wt 355 (by decide +kernel) rfl) ceX6_isNote
theorem kX2_85 : jLk RX2 85 yX6_beginAt mX6_beginAt 1 := jLk.mk (wt 359 (by decide +kernel) rfl) ceX6_beginAt
theorem kX2_88 : jLk RX2 88 yJ6_compare_7cf53 mJ6_compare_7cf53 2 := jLk.mk (wt 360 (by decide +kernel) rfl) ceJ6_compare_7cf53
theorem kX2_93 : jLk RX2 93 yJ9_floorMod_7cf53 mJ9_floorMod_7cf53 2 := jLk.mk (wt 367 (by decide +kernel) rfl) ceJ9_floorMod_7cf53
theorem kX2_98 : jLk RX2 98 yX2_add mX2_add 3 := jLk.mk (wt 370 (by decide +kernel) rfl) ceX2_add
theorem kX2_102 : Cond.methodLink RX2 102 Lib.Math.abs.name ∈ WT ∧ Cond.static Lib.Math.abs.name ∈ WT ∧ Cond.initialized "java/lang/Math" ∈ WT ∧ Cond.code Lib.Math.abs.name Lib.Math.abs.code 1 (some .int) ∈ WT := ⟨wt 382 (by decide +kernel) rfl, wt 383 (by decide +kernel) rfl, wt 20 (by decide +kernel) rfl, wt 384 (by decide +kernel) rfl⟩
theorem kX2_105 : jLk RX2 105 yX6_isOutOfRange mX6_isOutOfRange 1 := jLk.mk (wt 385 (by decide +kernel) rfl) ceX6_isOutOfRange
theorem kX3_3 : Cond.methodLink RX3 3 objectInit ∈ WT ∧ Cond.instanceMethod objectInit ∈ WT ∧ Cond.code objectInit ⟨#[0xb1]⟩ 1 none ∈ WT := ⟨wt 158 (by decide +kernel) rfl, wt 29 (by decide +kernel) rfl, wt 30 (by decide +kernel) rfl⟩
theorem kX3_25 : jLk RX3 25 yX3_has mX3_has 1 := jLk.mk (wt 339 (by decide +kernel) rfl) ceX3_has
theorem kX3_29 : jLk RX3 29 yJ7_fill_53178 mJ7_fill_53178 2 := jLk.mk (wt 290 (by decide +kernel) rfl) ceJ7_fill_53178
theorem kX3_35 : jLk RX3 35 yX3_nextBegin mX3_nextBegin 1 := jLk.mk (wt 293 (by decide +kernel) rfl) ceX3_nextBegin
theorem kX3_39 : jLk RX3 39 yX3_eventGoingOn mX3_eventGoingOn 3 := jLk.mk (wt 309 (by decide +kernel) rfl) ceX3_eventGoingOn
theorem kX3_43 : jLk RX3 43 yX6_has mX6_has 1 := jLk.mk (wt 297 (by decide +kernel) rfl) ceX6_has
theorem kX3_46 : jLk RX3 46 yX6_beginAt mX6_beginAt 1 := jLk.mk (wt 301 (by decide +kernel) rfl) ceX6_beginAt
theorem kX3_50 : Cond.methodLink RX3 50 Lib.Math.min.name ∈ WT ∧ Cond.static Lib.Math.min.name ∈ WT ∧ Cond.initialized "java/lang/Math" ∈ WT ∧ Cond.code Lib.Math.min.name Lib.Math.min.code 2 (some .int) ∈ WT := ⟨wt 306 (by decide +kernel) rfl, wt 307 (by decide +kernel) rfl, wt 20 (by decide +kernel) rfl, wt 308 (by decide +kernel) rfl⟩
theorem kX3_56 : jLk RX3 56 yX6_endAt mX6_endAt 1 := jLk.mk (wt 313 (by decide +kernel) rfl) ceX6_endAt
theorem kX4_3 : Cond.methodLink RX4 3 objectInit ∈ WT ∧ Cond.instanceMethod objectInit ∈ WT ∧ Cond.code objectInit ⟨#[0xb1]⟩ 1 none ∈ WT := ⟨wt 224 (by decide +kernel) rfl, wt 29 (by decide +kernel) rfl, wt 30 (by decide +kernel) rfl⟩
theorem kX4_28 : jLk RX4 28 yX0_beginAt mX0_beginAt 1 := jLk.mk (wt 442 (by decide +kernel) rfl) ceX0_beginAt
theorem kX4_34 : jLk RX4 34 yX0_lengthAt mX0_lengthAt 1 := jLk.mk (wt 443 (by decide +kernel) rfl) ceX0_lengthAt
theorem kX4_37 : jLk RX4 37 yX0_keyAt mX0_keyAt 1 := jLk.mk (wt 447 (by decide +kernel) rfl) ceX0_keyAt
theorem kX4_40 : Cond.methodLink RX4 40 Lib.Math.abs.name ∈ WT ∧ Cond.static Lib.Math.abs.name ∈ WT ∧ Cond.initialized "java/lang/Math" ∈ WT ∧ Cond.code Lib.Math.abs.name Lib.Math.abs.code 1 (some .int) ∈ WT := ⟨wt 451 (by decide +kernel) rfl, wt 383 (by decide +kernel) rfl, wt 20 (by decide +kernel) rfl, wt 384 (by decide +kernel) rfl⟩
theorem kX4_45 : jLk RX4 45 yX3_size mX3_size 0 := jLk.mk (wt 452 (by decide +kernel) rfl) ceX3_size
theorem kX4_51 : jLk RX4 51 yX3_tickAt mX3_tickAt 1 := jLk.mk (wt 453 (by decide +kernel) rfl) ceX3_tickAt
theorem kX4_54 : jLk RX4 54 yX4_widthOfGap mX4_widthOfGap 1 := jLk.mk (wt 454 (by decide +kernel) rfl) ceX4_widthOfGap
theorem kX4_57 : Cond.methodLink RX4 57 Lib.Math.min.name ∈ WT ∧ Cond.static Lib.Math.min.name ∈ WT ∧ Cond.initialized "java/lang/Math" ∈ WT ∧ Cond.code Lib.Math.min.name Lib.Math.min.code 2 (some .int) ∈ WT := ⟨wt 787 (by decide +kernel) rfl, wt 307 (by decide +kernel) rfl, wt 20 (by decide +kernel) rfl, wt 308 (by decide +kernel) rfl⟩
theorem kX4_61 : Cond.methodLink RX4 61 Lib.Math.max.name ∈ WT ∧ Cond.static Lib.Math.max.name ∈ WT ∧ Cond.initialized "java/lang/Math" ∈ WT ∧ Cond.code Lib.Math.max.name Lib.Math.max.code 2 (some .int) ∈ WT := ⟨wt 788 (by decide +kernel) rfl, wt 406 (by decide +kernel) rfl, wt 20 (by decide +kernel) rfl, wt 407 (by decide +kernel) rfl⟩
theorem kX4_64 : jLk RX4 64 yX4_chooseLine mX4_chooseLine 3 := jLk.mk (wt 789 (by decide +kernel) rfl) ceX4_chooseLine
theorem kX4_68 : jLk RX4 68 yX4_numberLines mX4_numberLines 1 := jLk.mk (wt 793 (by decide +kernel) rfl) ceX4_numberLines
theorem kX5_3 : Cond.methodLink RX5 3 objectInit ∈ WT ∧ Cond.instanceMethod objectInit ∈ WT ∧ Cond.code objectInit ⟨#[0xb1]⟩ 1 none ∈ WT := ⟨wt 117 (by decide +kernel) rfl, wt 29 (by decide +kernel) rfl, wt 30 (by decide +kernel) rfl⟩
theorem kX5_47 : jLk RX5 47 yX5_has mX5_has 1 := jLk.mk (wt 621 (by decide +kernel) rfl) ceX5_has
theorem kX5_51 : jLk RX5 51 yX0_beginAt mX0_beginAt 1 := jLk.mk (wt 575 (by decide +kernel) rfl) ceX0_beginAt
theorem kX5_57 : jLk RX5 57 yX0_lengthAt mX0_lengthAt 1 := jLk.mk (wt 576 (by decide +kernel) rfl) ceX0_lengthAt
theorem kX5_60 : jLk RX5 60 yX6_firstEndingBehind mX6_firstEndingBehind 1 := jLk.mk (wt 577 (by decide +kernel) rfl) ceX6_firstEndingBehind
theorem kX5_65 : jLk RX5 65 yX6_size mX6_size 0 := jLk.mk (wt 582 (by decide +kernel) rfl) ceX6_size
theorem kX5_69 : jLk RX5 69 yX6_beginAt mX6_beginAt 1 := jLk.mk (wt 583 (by decide +kernel) rfl) ceX6_beginAt
theorem kX5_70 : jLk RX5 70 yX6_endAt mX6_endAt 1 := jLk.mk (wt 584 (by decide +kernel) rfl) ceX6_endAt
theorem kX5_73 : Cond.methodLink RX5 73 Lib.Math.min.name ∈ WT ∧ Cond.static Lib.Math.min.name ∈ WT ∧ Cond.initialized "java/lang/Math" ∈ WT ∧ Cond.code Lib.Math.min.name Lib.Math.min.code 2 (some .int) ∈ WT := ⟨wt 585 (by decide +kernel) rfl, wt 307 (by decide +kernel) rfl, wt 20 (by decide +kernel) rfl, wt 308 (by decide +kernel) rfl⟩
theorem kX5_79 : Cond.methodLink RX5 79 Lib.Math.max.name ∈ WT ∧ Cond.static Lib.Math.max.name ∈ WT ∧ Cond.initialized "java/lang/Math" ∈ WT ∧ Cond.code Lib.Math.max.name Lib.Math.max.code 2 (some .int) ∈ WT := ⟨wt 586 (by decide +kernel) rfl, wt 406 (by decide +kernel) rfl, wt 20 (by decide +kernel) rfl, wt 407 (by decide +kernel) rfl⟩
theorem kX5_82 : jLk RX5 82 yX5_writeStretch mX5_writeStretch 3 := jLk.mk (wt 587 (by decide +kernel) rfl) ceX5_writeStretch
theorem kX5_86 : jLk RX5 86 yX0_end mX0_end 0 := jLk.mk (wt 600 (by decide +kernel) rfl) ceX0_end
theorem kX5_89 : jLk RX5 89 yX5_markSigns mX5_markSigns 2 := jLk.mk (wt 604 (by decide +kernel) rfl) ceX5_markSigns
theorem kX5_93 : jLk RX5 93 yX0_groupLengthAt mX0_groupLengthAt 1 := jLk.mk (wt 609 (by decide +kernel) rfl) ceX0_groupLengthAt
theorem kX5_96 : jLk RX5 96 yX5_beamSigns mX5_beamSigns 3 := jLk.mk (wt 613 (by decide +kernel) rfl) ceX5_beamSigns
theorem kX5_100 : jLk RX5 100 yX0_keyAt mX0_keyAt 1 := jLk.mk (wt 625 (by decide +kernel) rfl) ceX0_keyAt
theorem kX5_103 : jLk RX5 103 yX5_showAlters mX5_showAlters 2 := jLk.mk (wt 626 (by decide +kernel) rfl) ceX5_showAlters
theorem kX5_106 : jLk RX5 106 yX6_keyAsWritten mX6_keyAsWritten 1 := jLk.mk (wt 648 (by decide +kernel) rfl) ceX6_keyAsWritten
theorem kX5_109 : jLk RX5 109 yX5_showAltersAsWritten mX5_showAltersAsWritten 2 := jLk.mk (wt 652 (by decide +kernel) rfl) ceX5_showAltersAsWritten
theorem kX5_112 : jLk RX5 112 yX8_greatestIn mX8_greatestIn 1 := jLk.mk (wt 591 (by decide +kernel) rfl) ceX8_greatestIn
theorem kX5_117 : jLk RX5 117 yX5_addSign mX5_addSign 3 := jLk.mk (wt 596 (by decide +kernel) rfl) ceX5_addSign
theorem kX5_120 : jLk RX5 120 yX6_isNote mX6_isNote 1 := jLk.mk (wt 608 (by decide +kernel) rfl) ceX6_isNote
theorem kX5_123 : jLk RX5 123 yX5_joinToSignAhead mX5_joinToSignAhead 1 := jLk.mk (wt 617 (by decide +kernel) rfl) ceX5_joinToSignAhead
theorem kX5_127 : jLk RX5 127 yJ7_fill_53178 mJ7_fill_53178 2 := jLk.mk (wt 630 (by decide +kernel) rfl) ceJ7_fill_53178
theorem kX5_133 : jLk RX5 133 yX6_placeAt mX6_placeAt 1 := jLk.mk (wt 631 (by decide +kernel) rfl) ceX6_placeAt
theorem kX5_136 : jLk RX5 136 yX6_alterAt mX6_alterAt 1 := jLk.mk (wt 635 (by decide +kernel) rfl) ceX6_alterAt
theorem kX5_139 : jLk RX5 139 yX5_alterToShow mX5_alterToShow 3 := jLk.mk (wt 639 (by decide +kernel) rfl) ceX5_alterToShow
theorem kX5_143 : jLk RX5 143 yX6_writtenPlaceAt mX6_writtenPlaceAt 1 := jLk.mk (wt 656 (by decide +kernel) rfl) ceX6_writtenPlaceAt
theorem kX5_146 : jLk RX5 146 yX6_writtenAlterAt mX6_writtenAlterAt 1 := jLk.mk (wt 657 (by decide +kernel) rfl) ceX6_writtenAlterAt
theorem kX5_149 : jLk RX5 149 yX7_alterByKey mX7_alterByKey 2 := jLk.mk (wt 643 (by decide +kernel) rfl) ceX7_alterByKey
theorem kX6_3 : Cond.methodLink RX6 3 objectInit ∈ WT ∧ Cond.instanceMethod objectInit ∈ WT ∧ Cond.code objectInit ⟨#[0xb1]⟩ 1 none ∈ WT := ⟨wt 37 (by decide +kernel) rfl, wt 29 (by decide +kernel) rfl, wt 30 (by decide +kernel) rfl⟩
theorem kX6_46 : jLk RX6 46 yX6_givePitch mX6_givePitch 3 := jLk.mk (wt 877 (by decide +kernel) rfl) ceX6_givePitch
theorem kX6_50 : jLk RX6 50 yX6_has mX6_has 1 := jLk.mk (wt 305 (by decide +kernel) rfl) ceX6_has
theorem kX6_54 : jLk RX6 54 yX7_plainHeight mX7_plainHeight 1 := jLk.mk (wt 881 (by decide +kernel) rfl) ceX7_plainHeight
theorem kX6_60 : jLk RX6 60 yX6_writeForInstrument mX6_writeForInstrument 1 := jLk.mk (wt 890 (by decide +kernel) rfl) ceX6_writeForInstrument
theorem kX6_70 : jLk RX6 70 yX7_isPitch mX7_isPitch 2 := jLk.mk (wt 894 (by decide +kernel) rfl) ceX7_isPitch
theorem kX6_74 : jLk RX6 74 yX6_endAt mX6_endAt 1 := jLk.mk (wt 581 (by decide +kernel) rfl) ceX6_endAt
theorem kX6_77 : jLk RX6 77 yX6_isNote mX6_isNote 1 := jLk.mk (wt 424 (by decide +kernel) rfl) ceX6_isNote
theorem kX6_80 : jLk RX6 80 yX6_isOutOfRange mX6_isOutOfRange 1 := jLk.mk (wt 973 (by decide +kernel) rfl) ceX6_isOutOfRange
theorem kX6_83 : jLk RX6 83 yX6_heightAt mX6_heightAt 1 := jLk.mk (wt 425 (by decide +kernel) rfl) ceX6_heightAt
theorem kX7_9 : jLk RX7 9 yJ9_floorMod_7cf53 mJ9_floorMod_7cf53 2 := jLk.mk (wt 884 (by decide +kernel) rfl) ceJ9_floorMod_7cf53
theorem kX7_21 : jLk RX7 21 yJ9_floorDiv_7cf53 mJ9_floorDiv_7cf53 2 := jLk.mk (wt 887 (by decide +kernel) rfl) ceJ9_floorDiv_7cf53
theorem kL_7 : jLk RL 7 yX9_addNote mX9_addNote 4 := jLk.mk (wt 811 (by decide +kernel) rfl) ceX9_addNote
theorem kL_19 : jLk RL 19 yX9_addRest mX9_addRest 2 := jLk.mk (wt 898 (by decide +kernel) rfl) ceX9_addRest
theorem kL_23 : jLk RL 23 yX9_takeLast mX9_takeLast 1 := jLk.mk (wt 905 (by decide +kernel) rfl) ceX9_takeLast
theorem kL_27 : jLk RL 27 yX9_setPitch mX9_setPitch 4 := jLk.mk (wt 917 (by decide +kernel) rfl) ceX9_setPitch
theorem kL_30 : jLk RL 30 yX9_setMetre mX9_setMetre 3 := jLk.mk (wt 936 (by decide +kernel) rfl) ceX9_setMetre
theorem kL_34 : jLk RL 34 yX9_setKey mX9_setKey 2 := jLk.mk (wt 945 (by decide +kernel) rfl) ceX9_setKey
theorem kL_37 : jLk RL 37 yX9_setRange mX9_setRange 3 := jLk.mk (wt 960 (by decide +kernel) rfl) ceX9_setRange
theorem kL_40 : jLk RL 40 yX9_setShift mX9_setShift 3 := jLk.mk (wt 977 (by decide +kernel) rfl) ceX9_setShift
theorem kL_43 : jLk RL 43 yX9_events mX9_events 1 := jLk.mk (wt 993 (by decide +kernel) rfl) ceX9_events
theorem kL_46 : jLk RL 46 yX9_beginOf mX9_beginOf 2 := jLk.mk (wt 1000 (by decide +kernel) rfl) ceX9_beginOf
theorem kL_49 : jLk RL 49 yX9_heightOf mX9_heightOf 2 := jLk.mk (wt 1007 (by decide +kernel) rfl) ceX9_heightOf
theorem kL_52 : jLk RL 52 yX9_barOf mX9_barOf 2 := jLk.mk (wt 1014 (by decide +kernel) rfl) ceX9_barOf
theorem kL_55 : jLk RL 55 yX9_writtenPlace mX9_writtenPlace 2 := jLk.mk (wt 1021 (by decide +kernel) rfl) ceX9_writtenPlace
theorem kL_58 : jLk RL 58 yX9_writtenAlter mX9_writtenAlter 2 := jLk.mk (wt 1028 (by decide +kernel) rfl) ceX9_writtenAlter
theorem kL_61 : jLk RL 61 yX9_alterIn mX9_alterIn 2 := jLk.mk (wt 1035 (by decide +kernel) rfl) ceX9_alterIn
theorem kL_64 : jLk RL 64 yX9_writtenKey mX9_writtenKey 2 := jLk.mk (wt 1044 (by decide +kernel) rfl) ceX9_writtenKey
theorem kL_67 : jLk RL 67 yX9_beginOfBar mX9_beginOfBar 1 := jLk.mk (wt 1051 (by decide +kernel) rfl) ceX9_beginOfBar
theorem kL_70 : jLk RL 70 yX9_lengthOfBar mX9_lengthOfBar 1 := jLk.mk (wt 1058 (by decide +kernel) rfl) ceX9_lengthOfBar
theorem kL_73 : jLk RL 73 yX9_signs mX9_signs 2 := jLk.mk (wt 1065 (by decide +kernel) rfl) ceX9_signs
theorem kL_76 : jLk RL 76 yX9_eventOf mX9_eventOf 3 := jLk.mk (wt 1072 (by decide +kernel) rfl) ceX9_eventOf
theorem kL_79 : jLk RL 79 yX9_lengthOf mX9_lengthOf 3 := jLk.mk (wt 1085 (by decide +kernel) rfl) ceX9_lengthOf
theorem kL_82 : jLk RL 82 yX9_isTied mX9_isTied 3 := jLk.mk (wt 1092 (by decide +kernel) rfl) ceX9_isTied
theorem kL_86 : jLk RL 86 yX9_shown mX9_shown 3 := jLk.mk (wt 1099 (by decide +kernel) rfl) ceX9_shown
theorem kL_89 : jLk RL 89 yX9_shownWritten mX9_shownWritten 3 := jLk.mk (wt 1106 (by decide +kernel) rfl) ceX9_shownWritten
theorem kL_92 : jLk RL 92 yX9_beams mX9_beams 2 := jLk.mk (wt 1113 (by decide +kernel) rfl) ceX9_beams
theorem kL_95 : jLk RL 95 yX9_beamOf mX9_beamOf 3 := jLk.mk (wt 1120 (by decide +kernel) rfl) ceX9_beamOf
theorem kL_98 : jLk RL 98 yX9_missing mX9_missing 2 := jLk.mk (wt 1127 (by decide +kernel) rfl) ceX9_missing
theorem kL_101 : jLk RL 101 yX9_tickOf mX9_tickOf 1 := jLk.mk (wt 1134 (by decide +kernel) rfl) ceX9_tickOf
theorem kL_104 : jLk RL 104 yX9_sounds mX9_sounds 2 := jLk.mk (wt 1147 (by decide +kernel) rfl) ceX9_sounds
theorem kL_107 : jLk RL 107 yX9_root mX9_root 1 := jLk.mk (wt 1154 (by decide +kernel) rfl) ceX9_root
theorem kL_110 : jLk RL 110 yX9_kind mX9_kind 1 := jLk.mk (wt 1161 (by decide +kernel) rfl) ceX9_kind
theorem kL_113 : jLk RL 113 yX9_inversion mX9_inversion 1 := jLk.mk (wt 1168 (by decide +kernel) rfl) ceX9_inversion
theorem kL_116 : jLk RL 116 yX9_kindOfFault mX9_kindOfFault 1 := jLk.mk (wt 1175 (by decide +kernel) rfl) ceX9_kindOfFault
theorem kL_119 : jLk RL 119 yX9_tickOfFault mX9_tickOfFault 1 := jLk.mk (wt 1188 (by decide +kernel) rfl) ceX9_tickOfFault
theorem kL_122 : jLk RL 122 yX9_partsOfFault mX9_partsOfFault 1 := jLk.mk (wt 1195 (by decide +kernel) rfl) ceX9_partsOfFault
theorem kL_125 : jLk RL 125 yX9_faultsIfUp mX9_faultsIfUp 2 := jLk.mk (wt 1202 (by decide +kernel) rfl) ceX9_faultsIfUp
theorem kL_128 : jLk RL 128 yX9_widthOf mX9_widthOf 1 := jLk.mk (wt 1211 (by decide +kernel) rfl) ceX9_widthOf
theorem kL_131 : jLk RL 131 yX9_lines mX9_lines 1 := jLk.mk (wt 1218 (by decide +kernel) rfl) ceX9_lines
theorem kL_134 : jLk RL 134 yX9_lineOf mX9_lineOf 2 := jLk.mk (wt 1229 (by decide +kernel) rfl) ceX9_lineOf
theorem kL_137 : jLk RL 137 yX9_costOf mX9_costOf 1 := jLk.mk (wt 1240 (by decide +kernel) rfl) ceX9_costOf
theorem kL_140 : jLk RL 140 yX9_init mX9_init 0 := jLk.mk (wt 25 (by decide +kernel) rfl) ceX9_init
theorem kL_143 : jLk RL 143 yX11_init mX11_init 0 := jLk.mk (wt 1246 (by decide +kernel) rfl) ceX11_init
theorem kL_144 : Cond.methodLink RL 144 yL_addNote ∈ WT := wt 805 (by decide +kernel) rfl
theorem kL_149 : jLk RL 149 yX11_addNote mX11_addNote 4 := jLk.mk (wt 1393 (by decide +kernel) rfl) ceX11_addNote
theorem kL_150 : jLk RL 150 yX11_thrown mX11_thrown 0 := jLk.mk (wt 1389 (by decide +kernel) rfl) ceX11_thrown
theorem kL_154 : Cond.methodLink RL 154 yL_addRest ∈ WT := wt 895 (by decide +kernel) rfl
theorem kL_157 : jLk RL 157 yX11_addRest mX11_addRest 2 := jLk.mk (wt 1454 (by decide +kernel) rfl) ceX11_addRest
theorem kL_158 : Cond.methodLink RL 158 yL_takeLast ∈ WT := wt 902 (by decide +kernel) rfl
theorem kL_161 : jLk RL 161 yX11_takeLast mX11_takeLast 1 := jLk.mk (wt 1458 (by decide +kernel) rfl) ceX11_takeLast
theorem kL_162 : Cond.methodLink RL 162 yL_setPitch ∈ WT := wt 914 (by decide +kernel) rfl
theorem kL_164 : jLk RL 164 yX11_setPitch mX11_setPitch 4 := jLk.mk (wt 1462 (by decide +kernel) rfl) ceX11_setPitch
theorem kL_165 : Cond.methodLink RL 165 yL_setMetre ∈ WT := wt 933 (by decide +kernel) rfl
theorem kL_168 : jLk RL 168 yX11_setMetre mX11_setMetre 3 := jLk.mk (wt 1485 (by decide +kernel) rfl) ceX11_setMetre
theorem kL_169 : Cond.methodLink RL 169 yL_setKey ∈ WT := wt 942 (by decide +kernel) rfl
theorem kL_171 : jLk RL 171 yX11_setKey mX11_setKey 2 := jLk.mk (wt 1492 (by decide +kernel) rfl) ceX11_setKey
theorem kL_172 : Cond.methodLink RL 172 yL_setRange ∈ WT := wt 957 (by decide +kernel) rfl
theorem kL_174 : jLk RL 174 yX11_setRange mX11_setRange 3 := jLk.mk (wt 1496 (by decide +kernel) rfl) ceX11_setRange
theorem kL_175 : Cond.methodLink RL 175 yL_setShift ∈ WT := wt 974 (by decide +kernel) rfl
theorem kL_177 : jLk RL 177 yX11_setShift mX11_setShift 3 := jLk.mk (wt 1505 (by decide +kernel) rfl) ceX11_setShift
theorem kL_178 : Cond.methodLink RL 178 yL_events ∈ WT := wt 990 (by decide +kernel) rfl
theorem kL_180 : jLk RL 180 yX11_events mX11_events 1 := jLk.mk (wt 1523 (by decide +kernel) rfl) ceX11_events
theorem kL_181 : Cond.methodLink RL 181 yL_beginOf ∈ WT := wt 997 (by decide +kernel) rfl
theorem kL_183 : jLk RL 183 yX11_beginOf mX11_beginOf 2 := jLk.mk (wt 1527 (by decide +kernel) rfl) ceX11_beginOf
theorem kL_184 : Cond.methodLink RL 184 yL_heightOf ∈ WT := wt 1004 (by decide +kernel) rfl
theorem kL_186 : jLk RL 186 yX11_heightOf mX11_heightOf 2 := jLk.mk (wt 1531 (by decide +kernel) rfl) ceX11_heightOf
theorem kL_187 : Cond.methodLink RL 187 yL_barOf ∈ WT := wt 1011 (by decide +kernel) rfl
theorem kL_189 : jLk RL 189 yX11_barOf mX11_barOf 2 := jLk.mk (wt 1539 (by decide +kernel) rfl) ceX11_barOf
theorem kL_190 : Cond.methodLink RL 190 yL_writtenPlace ∈ WT := wt 1018 (by decide +kernel) rfl
theorem kL_192 : jLk RL 192 yX11_writtenPlace mX11_writtenPlace 2 := jLk.mk (wt 1547 (by decide +kernel) rfl) ceX11_writtenPlace
theorem kL_193 : Cond.methodLink RL 193 yL_writtenAlter ∈ WT := wt 1025 (by decide +kernel) rfl
theorem kL_195 : jLk RL 195 yX11_writtenAlter mX11_writtenAlter 2 := jLk.mk (wt 1556 (by decide +kernel) rfl) ceX11_writtenAlter
theorem kL_196 : Cond.methodLink RL 196 yL_alterIn ∈ WT := wt 1032 (by decide +kernel) rfl
theorem kL_198 : jLk RL 198 yX11_alterIn mX11_alterIn 2 := jLk.mk (wt 1565 (by decide +kernel) rfl) ceX11_alterIn
theorem kL_199 : Cond.methodLink RL 199 yL_writtenKey ∈ WT := wt 1041 (by decide +kernel) rfl
theorem kL_201 : jLk RL 201 yX11_writtenKey mX11_writtenKey 2 := jLk.mk (wt 1575 (by decide +kernel) rfl) ceX11_writtenKey
theorem kL_202 : Cond.methodLink RL 202 yL_beginOfBar ∈ WT := wt 1048 (by decide +kernel) rfl
theorem kL_204 : jLk RL 204 yX11_beginOfBar mX11_beginOfBar 1 := jLk.mk (wt 1583 (by decide +kernel) rfl) ceX11_beginOfBar
theorem kL_205 : Cond.methodLink RL 205 yL_lengthOfBar ∈ WT := wt 1055 (by decide +kernel) rfl
theorem kL_207 : jLk RL 207 yX11_lengthOfBar mX11_lengthOfBar 1 := jLk.mk (wt 1587 (by decide +kernel) rfl) ceX11_lengthOfBar
theorem kL_208 : Cond.methodLink RL 208 yL_signs ∈ WT := wt 1062 (by decide +kernel) rfl
theorem kL_210 : jLk RL 210 yX11_signs mX11_signs 2 := jLk.mk (wt 1591 (by decide +kernel) rfl) ceX11_signs
theorem kL_211 : Cond.methodLink RL 211 yL_eventOf ∈ WT := wt 1069 (by decide +kernel) rfl
theorem kL_213 : jLk RL 213 yX11_eventOf mX11_eventOf 3 := jLk.mk (wt 1618 (by decide +kernel) rfl) ceX11_eventOf
theorem kL_214 : Cond.methodLink RL 214 yL_lengthOf ∈ WT := wt 1082 (by decide +kernel) rfl
theorem kL_216 : jLk RL 216 yX11_lengthOf mX11_lengthOf 3 := jLk.mk (wt 1626 (by decide +kernel) rfl) ceX11_lengthOf
theorem kL_217 : Cond.methodLink RL 217 yL_isTied ∈ WT := wt 1089 (by decide +kernel) rfl
theorem kL_219 : jLk RL 219 yX11_isTied mX11_isTied 3 := jLk.mk (wt 1630 (by decide +kernel) rfl) ceX11_isTied
theorem kL_220 : Cond.methodLink RL 220 yL_shown ∈ WT := wt 1096 (by decide +kernel) rfl
theorem kL_222 : jLk RL 222 yX11_shown mX11_shown 3 := jLk.mk (wt 1634 (by decide +kernel) rfl) ceX11_shown
theorem kL_223 : Cond.methodLink RL 223 yL_shownWritten ∈ WT := wt 1103 (by decide +kernel) rfl
theorem kL_225 : jLk RL 225 yX11_shownWritten mX11_shownWritten 3 := jLk.mk (wt 1638 (by decide +kernel) rfl) ceX11_shownWritten
theorem kL_226 : Cond.methodLink RL 226 yL_beams ∈ WT := wt 1110 (by decide +kernel) rfl
theorem kL_228 : jLk RL 228 yX11_beams mX11_beams 2 := jLk.mk (wt 1642 (by decide +kernel) rfl) ceX11_beams
theorem kL_229 : Cond.methodLink RL 229 yL_beamOf ∈ WT := wt 1117 (by decide +kernel) rfl
theorem kL_231 : jLk RL 231 yX11_beamOf mX11_beamOf 3 := jLk.mk (wt 1646 (by decide +kernel) rfl) ceX11_beamOf
theorem kL_232 : Cond.methodLink RL 232 yL_missing ∈ WT := wt 1124 (by decide +kernel) rfl
theorem kL_234 : jLk RL 234 yX11_missing mX11_missing 2 := jLk.mk (wt 1650 (by decide +kernel) rfl) ceX11_missing
theorem kL_235 : jLk RL 235 yX9_moments mX9_moments 0 := jLk.mk (wt 278 (by decide +kernel) rfl) ceX9_moments
theorem kL_238 : jLk RL 238 yX11_moments mX11_moments 0 := jLk.mk (wt 1658 (by decide +kernel) rfl) ceX11_moments
theorem kL_239 : Cond.methodLink RL 239 yL_tickOf ∈ WT := wt 1131 (by decide +kernel) rfl
theorem kL_241 : jLk RL 241 yX11_tickOf mX11_tickOf 1 := jLk.mk (wt 1675 (by decide +kernel) rfl) ceX11_tickOf
theorem kL_242 : Cond.methodLink RL 242 yL_sounds ∈ WT := wt 1144 (by decide +kernel) rfl
theorem kL_244 : jLk RL 244 yX11_sounds mX11_sounds 2 := jLk.mk (wt 1683 (by decide +kernel) rfl) ceX11_sounds
theorem kL_245 : Cond.methodLink RL 245 yL_root ∈ WT := wt 1151 (by decide +kernel) rfl
theorem kL_247 : jLk RL 247 yX11_root mX11_root 1 := jLk.mk (wt 1691 (by decide +kernel) rfl) ceX11_root
theorem kL_248 : Cond.methodLink RL 248 yL_kind ∈ WT := wt 1158 (by decide +kernel) rfl
theorem kL_250 : jLk RL 250 yX11_kind mX11_kind 1 := jLk.mk (wt 1699 (by decide +kernel) rfl) ceX11_kind
theorem kL_251 : Cond.methodLink RL 251 yL_inversion ∈ WT := wt 1165 (by decide +kernel) rfl
theorem kL_253 : jLk RL 253 yX11_inversion mX11_inversion 1 := jLk.mk (wt 1703 (by decide +kernel) rfl) ceX11_inversion
theorem kL_254 : jLk RL 254 yX9_faults mX9_faults 0 := jLk.mk (wt 321 (by decide +kernel) rfl) ceX9_faults
theorem kL_257 : jLk RL 257 yX11_faults mX11_faults 0 := jLk.mk (wt 1707 (by decide +kernel) rfl) ceX11_faults
theorem kL_258 : Cond.methodLink RL 258 yL_kindOfFault ∈ WT := wt 1172 (by decide +kernel) rfl
theorem kL_260 : jLk RL 260 yX11_kindOfFault mX11_kindOfFault 1 := jLk.mk (wt 1731 (by decide +kernel) rfl) ceX11_kindOfFault
theorem kL_261 : Cond.methodLink RL 261 yL_tickOfFault ∈ WT := wt 1185 (by decide +kernel) rfl
theorem kL_263 : jLk RL 263 yX11_tickOfFault mX11_tickOfFault 1 := jLk.mk (wt 1739 (by decide +kernel) rfl) ceX11_tickOfFault
theorem kL_264 : Cond.methodLink RL 264 yL_partsOfFault ∈ WT := wt 1192 (by decide +kernel) rfl
theorem kL_266 : jLk RL 266 yX11_partsOfFault mX11_partsOfFault 1 := jLk.mk (wt 1743 (by decide +kernel) rfl) ceX11_partsOfFault
theorem kL_267 : Cond.methodLink RL 267 yL_faultsIfUp ∈ WT := wt 1199 (by decide +kernel) rfl
theorem kL_269 : jLk RL 269 yX11_faultsIfUp mX11_faultsIfUp 2 := jLk.mk (wt 1747 (by decide +kernel) rfl) ceX11_faultsIfUp
theorem kL_270 : jLk RL 270 yX9_bars mX9_bars 0 := jLk.mk (wt 393 (by decide +kernel) rfl) ceX9_bars
theorem kL_273 : jLk RL 273 yX11_bars mX11_bars 0 := jLk.mk (wt 1751 (by decide +kernel) rfl) ceX11_bars
theorem kL_274 : Cond.methodLink RL 274 yL_widthOf ∈ WT := wt 1208 (by decide +kernel) rfl
theorem kL_276 : jLk RL 276 yX11_widthOf mX11_widthOf 1 := jLk.mk (wt 1759 (by decide +kernel) rfl) ceX11_widthOf
theorem kL_277 : Cond.methodLink RL 277 yL_lines ∈ WT := wt 1215 (by decide +kernel) rfl
theorem kL_279 : jLk RL 279 yX11_lines mX11_lines 1 := jLk.mk (wt 1767 (by decide +kernel) rfl) ceX11_lines
theorem kL_280 : Cond.methodLink RL 280 yL_lineOf ∈ WT := wt 1226 (by decide +kernel) rfl
theorem kL_282 : jLk RL 282 yX11_lineOf mX11_lineOf 2 := jLk.mk (wt 1779 (by decide +kernel) rfl) ceX11_lineOf
theorem kL_283 : Cond.methodLink RL 283 yL_costOf ∈ WT := wt 1237 (by decide +kernel) rfl
theorem kL_285 : jLk RL 285 yX11_costOf mX11_costOf 1 := jLk.mk (wt 1783 (by decide +kernel) rfl) ceX11_costOf
theorem kL_286 : jLk RL 286 yX9_meanHeight mX9_meanHeight 0 := jLk.mk (wt 416 (by decide +kernel) rfl) ceX9_meanHeight
theorem kL_290 : jLk RL 290 yX11_meanHeight mX11_meanHeight 0 := jLk.mk (wt 1791 (by decide +kernel) rfl) ceX11_meanHeight
theorem kL_291 : jLk RL 291 yX9_digest mX9_digest 0 := jLk.mk (wt 430 (by decide +kernel) rfl) ceX9_digest
theorem kL_295 : jLk RL 295 yX11_digest mX11_digest 0 := jLk.mk (wt 1795 (by decide +kernel) rfl) ceX11_digest
theorem kX11_1 : jLk RX11 1 yJ9_floorDiv_7cf53 mJ9_floorDiv_7cf53 2 := jLk.mk (wt 1481 (by decide +kernel) rfl) ceJ9_floorDiv_7cf53
theorem kX11_13 : jLk RX11 13 yJ9_floorMod_7cf53 mJ9_floorMod_7cf53 2 := jLk.mk (wt 1484 (by decide +kernel) rfl) ceJ9_floorMod_7cf53
theorem kX11_16 : Cond.methodLink RX11 16 objectInit ∈ WT ∧ Cond.instanceMethod objectInit ∈ WT ∧ Cond.code objectInit ⟨#[0xb1]⟩ 1 none ∈ WT := ⟨wt 1249 (by decide +kernel) rfl, wt 29 (by decide +kernel) rfl, wt 30 (by decide +kernel) rfl⟩
theorem kX11_80 : jLkN RX11 80 yX10_init RX11 mX10_init 0 := ⟨by decide +kernel, ceX10_init⟩
theorem kX11_81 : jLk RX11 81 yJ7_fill_53178 mJ7_fill_53178 2 := jLk.mk (wt 1294 (by decide +kernel) rfl) ceJ7_fill_53178
theorem kX11_91 : jLk RX11 91 yX11_is mX11_is 3 := jLk.mk (wt 1400 (by decide +kernel) rfl) ceX11_is
theorem kX11_95 : jLk RX11 95 yX11_isPart mX11_isPart 1 := jLk.mk (wt 1397 (by decide +kernel) rfl) ceX11_isPart
theorem kX11_105 : jLk RX11 105 yX11_length mX11_length 1 := jLk.mk (wt 1431 (by decide +kernel) rfl) ceX11_length
theorem kX11_109 : jLk RX11 109 yX10_end mX10_end 0 := jLk.mk (wt 1419 (by decide +kernel) rfl) ceX10_end
theorem kX11_112 : jLk RX11 112 yX11_begin mX11_begin 1 := jLk.mk (wt 1427 (by decide +kernel) rfl) ceX11_begin
theorem kX11_115 : jLk RX11 115 yX11_refuse mX11_refuse 1 := jLk.mk (wt 1403 (by decide +kernel) rfl) ceX11_refuse
theorem kX11_118 : jLk RX11 118 yX10_add mX10_add 3 := jLk.mk (wt 1435 (by decide +kernel) rfl) ceX10_add
theorem kX11_122 : jLk RX11 122 yX11_isPitch mX11_isPitch 2 := jLk.mk (wt 1407 (by decide +kernel) rfl) ceX11_isPitch
theorem kX11_126 : jLk RX11 126 yX11_isValue mX11_isValue 1 := jLk.mk (wt 1410 (by decide +kernel) rfl) ceX11_isValue
theorem kX11_129 : jLk RX11 129 yX11_add mX11_add 4 := jLk.mk (wt 1415 (by decide +kernel) rfl) ceX11_add
theorem kX11_134 : jLk RX11 134 yX11_isEvent mX11_isEvent 2 := jLk.mk (wt 1466 (by decide +kernel) rfl) ceX11_isEvent
theorem kX11_137 : jLk RX11 137 yX10_isNote mX10_isNote 1 := jLk.mk (wt 1470 (by decide +kernel) rfl) ceX10_isNote
theorem kX11_140 : jLk RX11 140 yX10_height mX10_height 1 := jLk.mk (wt 1474 (by decide +kernel) rfl) ceX10_height
theorem kX11_149 : jLk RX11 149 yX11_isBar mX11_isBar 1 := jLk.mk (wt 1489 (by decide +kernel) rfl) ceX11_isBar
theorem kX11_158 : jLk RX11 158 yX10_isOut mX10_isOut 1 := jLk.mk (wt 1500 (by decide +kernel) rfl) ceX10_isOut
theorem kX11_167 : jLk RX11 167 yX10_isWritten mX10_isWritten 1 := jLk.mk (wt 1509 (by decide +kernel) rfl) ceX10_isWritten
theorem kX11_172 : jLk RX11 172 yX11_heightNow mX11_heightNow 2 := jLk.mk (wt 1535 (by decide +kernel) rfl) ceX11_heightNow
theorem kX11_175 : jLk RX11 175 yX11_barAt mX11_barAt 1 := jLk.mk (wt 1543 (by decide +kernel) rfl) ceX11_barAt
theorem kX11_178 : jLk RX11 178 yX10_writtenPlace mX10_writtenPlace 1 := jLk.mk (wt 1555 (by decide +kernel) rfl) ceX10_writtenPlace
theorem kX11_181 : jLk RX11 181 yX10_writtenAlter mX10_writtenAlter 1 := jLk.mk (wt 1564 (by decide +kernel) rfl) ceX10_writtenAlter
theorem kX11_184 : jLk RX11 184 yX11_writtenPlaceNow mX11_writtenPlaceNow 2 := jLk.mk (wt 1551 (by decide +kernel) rfl) ceX11_writtenPlaceNow
theorem kX11_187 : jLk RX11 187 yX11_writtenAlterNow mX11_writtenAlterNow 2 := jLk.mk (wt 1560 (by decide +kernel) rfl) ceX11_writtenAlterNow
theorem kX11_190 : Cond.methodLink RX11 190 Lib.Math.abs.name ∈ WT ∧ Cond.static Lib.Math.abs.name ∈ WT ∧ Cond.initialized "java/lang/Math" ∈ WT ∧ Cond.code Lib.Math.abs.name Lib.Math.abs.code 1 (some .int) ∈ WT := ⟨wt 1572 (by decide +kernel) rfl, wt 383 (by decide +kernel) rfl, wt 20 (by decide +kernel) rfl, wt 384 (by decide +kernel) rfl⟩
theorem kX11_196 : jLk RX11 196 yX11_altered mX11_altered 2 := jLk.mk (wt 1569 (by decide +kernel) rfl) ceX11_altered
theorem kX11_199 : jLk RX11 199 yX11_keyWritten mX11_keyWritten 2 := jLk.mk (wt 1579 (by decide +kernel) rfl) ceX11_keyWritten
theorem kX11_205 : Cond.methodLink RX11 205 Lib.Math.max.name ∈ WT ∧ Cond.static Lib.Math.max.name ∈ WT ∧ Cond.initialized "java/lang/Math" ∈ WT ∧ Cond.code Lib.Math.max.name Lib.Math.max.code 2 (some .int) ∈ WT := ⟨wt 1603 (by decide +kernel) rfl, wt 406 (by decide +kernel) rfl, wt 20 (by decide +kernel) rfl, wt 407 (by decide +kernel) rfl⟩
theorem kX11_208 : jLk RX11 208 yX10_endOf mX10_endOf 1 := jLk.mk (wt 1604 (by decide +kernel) rfl) ceX10_endOf
theorem kX11_211 : Cond.methodLink RX11 211 Lib.Math.min.name ∈ WT ∧ Cond.static Lib.Math.min.name ∈ WT ∧ Cond.initialized "java/lang/Math" ∈ WT ∧ Cond.code Lib.Math.min.name Lib.Math.min.code 2 (some .int) ∈ WT := ⟨wt 1605 (by decide +kernel) rfl, wt 307 (by decide +kernel) rfl, wt 20 (by decide +kernel) rfl, wt 308 (by decide +kernel) rfl⟩
theorem kX11_214 : jLk RX11 214 yX11_show mX11_show 4 := jLk.mk (wt 1606 (by decide +kernel) rfl) ceX11_show
theorem kX11_218 : jLk RX11 218 yX11_beam mX11_beam 3 := jLk.mk (wt 1610 (by decide +kernel) rfl) ceX11_beam
theorem kX11_224 : jLk RX11 224 yX11_isShort mX11_isShort 2 := jLk.mk (wt 1614 (by decide +kernel) rfl) ceX11_isShort
theorem kX11_227 : jLk RX11 227 yX11_lay mX11_lay 2 := jLk.mk (wt 1599 (by decide +kernel) rfl) ceX11_lay
theorem kX11_231 : jLk RX11 231 yX11_has mX11_has 2 := jLk.mk (wt 1595 (by decide +kernel) rfl) ceX11_has
theorem kX11_234 : jLk RX11 234 yX11_has_ mX11_has_ 3 := jLk.mk (wt 1622 (by decide +kernel) rfl) ceX11_has_
theorem kX11_236 : jLk RX11 236 yX11_missingNow mX11_missingNow 2 := jLk.mk (wt 1654 (by decide +kernel) rfl) ceX11_missingNow
theorem kX11_245 : jLk RX11 245 yX11_beginWalk mX11_beginWalk 0 := jLk.mk (wt 1666 (by decide +kernel) rfl) ceX11_beginWalk
theorem kX11_248 : jLk RX11 248 yX11_walk mX11_walk 0 := jLk.mk (wt 1670 (by decide +kernel) rfl) ceX11_walk
theorem kX11_252 : jLk RX11 252 yX11_momentsNow mX11_momentsNow 0 := jLk.mk (wt 1662 (by decide +kernel) rfl) ceX11_momentsNow
theorem kX11_255 : jLk RX11 255 yX11_walkTo mX11_walkTo 1 := jLk.mk (wt 1679 (by decide +kernel) rfl) ceX11_walkTo
theorem kX11_258 : jLk RX11 258 yX11_soundsNow mX11_soundsNow 1 := jLk.mk (wt 1687 (by decide +kernel) rfl) ceX11_soundsNow
theorem kX11_270 : jLk RX11 270 yX11_findChord mX11_findChord 0 := jLk.mk (wt 1695 (by decide +kernel) rfl) ceX11_findChord
theorem kX11_288 : jLk RX11 288 yX11_blameParallels mX11_blameParallels 2 := jLk.mk (wt 1715 (by decide +kernel) rfl) ceX11_blameParallels
theorem kX11_291 : jLk RX11 291 yX11_begins mX11_begins 1 := jLk.mk (wt 1719 (by decide +kernel) rfl) ceX11_begins
theorem kX11_294 : jLk RX11 294 yX11_blame mX11_blame 2 := jLk.mk (wt 1723 (by decide +kernel) rfl) ceX11_blame
theorem kX11_297 : jLk RX11 297 yX11_blamePart mX11_blamePart 1 := jLk.mk (wt 1727 (by decide +kernel) rfl) ceX11_blamePart
theorem kX11_301 : jLk RX11 301 yX11_countFaults mX11_countFaults 1 := jLk.mk (wt 1711 (by decide +kernel) rfl) ceX11_countFaults
theorem kX11_304 : jLk RX11 304 yX11_hasFault mX11_hasFault 1 := jLk.mk (wt 1735 (by decide +kernel) rfl) ceX11_hasFault
theorem kX11_307 : jLk RX11 307 yX11_barsNow mX11_barsNow 0 := jLk.mk (wt 1755 (by decide +kernel) rfl) ceX11_barsNow
theorem kX11_310 : jLk RX11 310 yX11_width mX11_width 1 := jLk.mk (wt 1763 (by decide +kernel) rfl) ceX11_width
theorem kX11_313 : jLk RX11 313 yX11_breakLines mX11_breakLines 1 := jLk.mk (wt 1775 (by decide +kernel) rfl) ceX11_breakLines
theorem kX11_316 : jLk RX11 316 yX11_linesNow mX11_linesNow 1 := jLk.mk (wt 1771 (by decide +kernel) rfl) ceX11_linesNow
theorem kX11_319 : jLk RX11 319 yX11_costNow mX11_costNow 1 := jLk.mk (wt 1787 (by decide +kernel) rfl) ceX11_costNow
theorem kX11_328 : jLk RX11 328 yX11_add_ mX11_add_ 1 := jLk.mk (wt 1800 (by decide +kernel) rfl) ceX11_add_
theorem kX11_332 : jLk RX11 332 yX11_addSigns mX11_addSigns 2 := jLk.mk (wt 1805 (by decide +kernel) rfl) ceX11_addSigns
theorem kX10_3 : Cond.methodLink RX10 3 objectInit ∈ WT ∧ Cond.instanceMethod objectInit ∈ WT ∧ Cond.code objectInit ⟨#[0xb1]⟩ 1 none ∈ WT := ⟨wt 1256 (by decide +kernel) rfl, wt 29 (by decide +kernel) rfl, wt 30 (by decide +kernel) rfl⟩
theorem kX10_34 : jLk RX10 34 yX10_endOf mX10_endOf 1 := jLk.mk (wt 1423 (by decide +kernel) rfl) ceX10_endOf
theorem kX10_38 : jLk RX10 38 yJ7_copyOf_59c91 mJ7_copyOf_59c91 2 := jLk.mk (wt 1439 (by decide +kernel) rfl) ceJ7_copyOf_59c91
theorem kX10_44 : jLk RX10 44 yX10_end mX10_end 0 := jLk.mk (wt 1453 (by decide +kernel) rfl) ceX10_end
theorem kX10_48 : jLkN RX10 48 yX11_base RX11 mX11_base 1 := ⟨by decide +kernel, ceX11_base⟩
theorem kX10_51 : jLk RX10 51 yX10_isNote mX10_isNote 1 := jLk.mk (wt 1504 (by decide +kernel) rfl) ceX10_isNote
theorem kX10_61 : jLk RX10 61 yX10_height mX10_height 1 := jLk.mk (wt 1522 (by decide +kernel) rfl) ceX10_height
theorem kX10_64 : jLk RX10 64 yX10_writtenPlace mX10_writtenPlace 1 := jLk.mk (wt 1513 (by decide +kernel) rfl) ceX10_writtenPlace
theorem kX10_67 : jLkN RX10 67 yX11_is RX11 mX11_is 3 := ⟨by decide +kernel, ceX11_is⟩
theorem kX10_71 : jLk RX10 71 yX10_writtenAlter mX10_writtenAlter 1 := jLk.mk (wt 1518 (by decide +kernel) rfl) ceX10_writtenAlter
theorem kJ7_304 : Cond.methodLink RJ7 304 Lib.Math.min.name ∈ WT ∧ Cond.static Lib.Math.min.name ∈ WT ∧ Cond.initialized "java/lang/Math" ∈ WT ∧ Cond.code Lib.Math.min.name Lib.Math.min.code 2 (some .int) ∈ WT := ⟨wt 1449 (by decide +kernel) rfl, wt 307 (by decide +kernel) rfl, wt 20 (by decide +kernel) rfl, wt 308 (by decide +kernel) rfl⟩
theorem fX9_11 : jFl RX9 11 7 0 := ⟨RX9, TX9, 12, rfl, by decide, wt 241 (by decide +kernel) rfl, inX9⟩
theorem fX9_19 : jFl RX9 19 7 1 := ⟨RX9, TX9, 12, rfl, by decide, wt 242 (by decide +kernel) rfl, inX9⟩
theorem fX9_26 : jFl RX9 26 7 2 := ⟨RX9, TX9, 12, rfl, by decide, wt 243 (by decide +kernel) rfl, inX9⟩
theorem fX9_33 : jFl RX9 33 7 3 := ⟨RX9, TX9, 12, rfl, by decide, wt 244 (by decide +kernel) rfl, inX9⟩
theorem fX9_40 : jFl RX9 40 7 4 := ⟨RX9, TX9, 12, rfl, by decide, wt 245 (by decide +kernel) rfl, inX9⟩
theorem fX9_47 : jFl RX9 47 7 5 := ⟨RX9, TX9, 12, rfl, by decide, wt 246 (by decide +kernel) rfl, inX9⟩
theorem fX9_54 : jFl RX9 54 7 6 := ⟨RX9, TX9, 12, rfl, by decide, wt 247 (by decide +kernel) rfl, inX9⟩
theorem fX9_58 : jFl RX9 58 7 7 := ⟨RX9, TX9, 12, rfl, by decide, wt 248 (by decide +kernel) rfl, inX9⟩
theorem fX9_62 : jFl RX9 62 7 8 := ⟨RX9, TX9, 12, rfl, by decide, wt 249 (by decide +kernel) rfl, inX9⟩
theorem fX9_65 : jFl RX9 65 7 9 := ⟨RX9, TX9, 12, rfl, by decide, wt 250 (by decide +kernel) rfl, inX9⟩
theorem fX9_68 : jFl RX9 68 7 10 := ⟨RX9, TX9, 12, rfl, by decide, wt 251 (by decide +kernel) rfl, inX9⟩
theorem fX9_72 : jFl RX9 72 7 11 := ⟨RX9, TX9, 12, rfl, by decide, wt 252 (by decide +kernel) rfl, inX9⟩
theorem fX0_9 : jFl RX0 9 0 0 := ⟨RX0, TX0, 5, rfl, by decide, wt 96 (by decide +kernel) rfl, inX0⟩
theorem fX0_15 : jFl RX0 15 0 1 := ⟨RX0, TX0, 5, rfl, by decide, wt 97 (by decide +kernel) rfl, inX0⟩
theorem fX0_18 : jFl RX0 18 0 2 := ⟨RX0, TX0, 5, rfl, by decide, wt 98 (by decide +kernel) rfl, inX0⟩
theorem fX0_21 : jFl RX0 21 0 3 := ⟨RX0, TX0, 5, rfl, by decide, wt 99 (by decide +kernel) rfl, inX0⟩
theorem fX0_36 : jFl RX0 36 0 4 := ⟨RX0, TX0, 5, rfl, by decide, wt 100 (by decide +kernel) rfl, inX0⟩
theorem fX1_9 : jFl RX1 9 1 0 := ⟨RX1, TX1, 3, rfl, by decide, wt 178 (by decide +kernel) rfl, inX1⟩
theorem fX1_15 : jFl RX1 15 1 1 := ⟨RX1, TX1, 3, rfl, by decide, wt 179 (by decide +kernel) rfl, inX1⟩
theorem fX1_18 : jFl RX1 18 1 2 := ⟨RX1, TX1, 3, rfl, by decide, wt 180 (by decide +kernel) rfl, inX1⟩
theorem fX2_9 : jFl RX2 9 2 0 := ⟨RX2, TX2, 8, rfl, by decide, wt 194 (by decide +kernel) rfl, inX2⟩
theorem fX2_15 : jFl RX2 15 2 1 := ⟨RX2, TX2, 8, rfl, by decide, wt 195 (by decide +kernel) rfl, inX2⟩
theorem fX2_18 : jFl RX2 18 2 2 := ⟨RX2, TX2, 8, rfl, by decide, wt 196 (by decide +kernel) rfl, inX2⟩
theorem fX2_21 : jFl RX2 21 2 3 := ⟨RX2, TX2, 8, rfl, by decide, wt 197 (by decide +kernel) rfl, inX2⟩
theorem fX2_24 : jFl RX2 24 2 4 := ⟨RX2, TX2, 8, rfl, by decide, wt 198 (by decide +kernel) rfl, inX2⟩
theorem fX2_27 : jFl RX2 27 2 5 := ⟨RX2, TX2, 8, rfl, by decide, wt 199 (by decide +kernel) rfl, inX2⟩
theorem fX2_31 : jFl RX2 31 2 6 := ⟨RX2, TX2, 8, rfl, by decide, wt 200 (by decide +kernel) rfl, inX2⟩
theorem fX2_34 : jFl RX2 34 2 7 := ⟨RX2, TX2, 8, rfl, by decide, wt 201 (by decide +kernel) rfl, inX2⟩
theorem fX3_9 : jFl RX3 9 3 0 := ⟨RX3, TX3, 4, rfl, by decide, wt 159 (by decide +kernel) rfl, inX3⟩
theorem fX3_15 : jFl RX3 15 3 1 := ⟨RX3, TX3, 4, rfl, by decide, wt 160 (by decide +kernel) rfl, inX3⟩
theorem fX3_18 : jFl RX3 18 3 2 := ⟨RX3, TX3, 4, rfl, by decide, wt 161 (by decide +kernel) rfl, inX3⟩
theorem fX3_21 : jFl RX3 21 3 3 := ⟨RX3, TX3, 4, rfl, by decide, wt 162 (by decide +kernel) rfl, inX3⟩
theorem fX4_9 : jFl RX4 9 4 0 := ⟨RX4, TX4, 5, rfl, by decide, wt 225 (by decide +kernel) rfl, inX4⟩
theorem fX4_15 : jFl RX4 15 4 1 := ⟨RX4, TX4, 5, rfl, by decide, wt 226 (by decide +kernel) rfl, inX4⟩
theorem fX4_18 : jFl RX4 18 4 2 := ⟨RX4, TX4, 5, rfl, by decide, wt 227 (by decide +kernel) rfl, inX4⟩
theorem fX4_21 : jFl RX4 21 4 3 := ⟨RX4, TX4, 5, rfl, by decide, wt 228 (by decide +kernel) rfl, inX4⟩
theorem fX4_24 : jFl RX4 24 4 4 := ⟨RX4, TX4, 5, rfl, by decide, wt 229 (by decide +kernel) rfl, inX4⟩
theorem fX5_9 : jFl RX5 9 5 0 := ⟨RX5, TX5, 11, rfl, by decide, wt 118 (by decide +kernel) rfl, inX5⟩
theorem fX5_15 : jFl RX5 15 5 1 := ⟨RX5, TX5, 11, rfl, by decide, wt 119 (by decide +kernel) rfl, inX5⟩
theorem fX5_18 : jFl RX5 18 5 2 := ⟨RX5, TX5, 11, rfl, by decide, wt 120 (by decide +kernel) rfl, inX5⟩
theorem fX5_21 : jFl RX5 21 5 3 := ⟨RX5, TX5, 11, rfl, by decide, wt 121 (by decide +kernel) rfl, inX5⟩
theorem fX5_25 : jFl RX5 25 5 4 := ⟨RX5, TX5, 11, rfl, by decide, wt 122 (by decide +kernel) rfl, inX5⟩
theorem fX5_28 : jFl RX5 28 5 5 := ⟨RX5, TX5, 11, rfl, by decide, wt 123 (by decide +kernel) rfl, inX5⟩
theorem fX5_31 : jFl RX5 31 5 6 := ⟨RX5, TX5, 11, rfl, by decide, wt 124 (by decide +kernel) rfl, inX5⟩
theorem fX5_34 : jFl RX5 34 5 7 := ⟨RX5, TX5, 11, rfl, by decide, wt 125 (by decide +kernel) rfl, inX5⟩
theorem fX5_37 : jFl RX5 37 5 8 := ⟨RX5, TX5, 11, rfl, by decide, wt 126 (by decide +kernel) rfl, inX5⟩
theorem fX5_40 : jFl RX5 40 5 9 := ⟨RX5, TX5, 11, rfl, by decide, wt 127 (by decide +kernel) rfl, inX5⟩
theorem fX5_44 : jFl RX5 44 5 10 := ⟨RX5, TX5, 11, rfl, by decide, wt 128 (by decide +kernel) rfl, inX5⟩
theorem fX6_9 : jFl RX6 9 6 0 := ⟨RX6, TX6, 13, rfl, by decide, wt 38 (by decide +kernel) rfl, inX6⟩
theorem fX6_15 : jFl RX6 15 6 1 := ⟨RX6, TX6, 13, rfl, by decide, wt 39 (by decide +kernel) rfl, inX6⟩
theorem fX6_18 : jFl RX6 18 6 2 := ⟨RX6, TX6, 13, rfl, by decide, wt 40 (by decide +kernel) rfl, inX6⟩
theorem fX6_21 : jFl RX6 21 6 3 := ⟨RX6, TX6, 13, rfl, by decide, wt 41 (by decide +kernel) rfl, inX6⟩
theorem fX6_24 : jFl RX6 24 6 4 := ⟨RX6, TX6, 13, rfl, by decide, wt 42 (by decide +kernel) rfl, inX6⟩
theorem fX6_27 : jFl RX6 27 6 5 := ⟨RX6, TX6, 13, rfl, by decide, wt 43 (by decide +kernel) rfl, inX6⟩
theorem fX6_30 : jFl RX6 30 6 6 := ⟨RX6, TX6, 13, rfl, by decide, wt 44 (by decide +kernel) rfl, inX6⟩
theorem fX6_33 : jFl RX6 33 6 9 := ⟨RX6, TX6, 13, rfl, by decide, wt 47 (by decide +kernel) rfl, inX6⟩
theorem fX6_37 : jFl RX6 37 6 10 := ⟨RX6, TX6, 13, rfl, by decide, wt 48 (by decide +kernel) rfl, inX6⟩
theorem fX6_40 : jFl RX6 40 6 7 := ⟨RX6, TX6, 13, rfl, by decide, wt 45 (by decide +kernel) rfl, inX6⟩
theorem fX6_43 : jFl RX6 43 6 8 := ⟨RX6, TX6, 13, rfl, by decide, wt 46 (by decide +kernel) rfl, inX6⟩
theorem fX6_64 : jFl RX6 64 6 11 := ⟨RX6, TX6, 13, rfl, by decide, wt 49 (by decide +kernel) rfl, inX6⟩
theorem fX6_67 : jFl RX6 67 6 12 := ⟨RX6, TX6, 13, rfl, by decide, wt 50 (by decide +kernel) rfl, inX6⟩
theorem fX11_24 : jFl RX11 24 9 1 := ⟨RX11, TX11, 31, rfl, by decide, wt 1296 (by decide +kernel) rfl, inX11⟩
theorem fX11_28 : jFl RX11 28 9 2 := ⟨RX11, TX11, 31, rfl, by decide, wt 1297 (by decide +kernel) rfl, inX11⟩
theorem fX11_31 : jFl RX11 31 9 3 := ⟨RX11, TX11, 31, rfl, by decide, wt 1298 (by decide +kernel) rfl, inX11⟩
theorem fX11_34 : jFl RX11 34 9 4 := ⟨RX11, TX11, 31, rfl, by decide, wt 1299 (by decide +kernel) rfl, inX11⟩
theorem fX11_37 : jFl RX11 37 9 7 := ⟨RX11, TX11, 31, rfl, by decide, wt 1302 (by decide +kernel) rfl, inX11⟩
theorem fX11_40 : jFl RX11 40 9 8 := ⟨RX11, TX11, 31, rfl, by decide, wt 1303 (by decide +kernel) rfl, inX11⟩
theorem fX11_43 : jFl RX11 43 9 9 := ⟨RX11, TX11, 31, rfl, by decide, wt 1304 (by decide +kernel) rfl, inX11⟩
theorem fX11_46 : jFl RX11 46 9 10 := ⟨RX11, TX11, 31, rfl, by decide, wt 1305 (by decide +kernel) rfl, inX11⟩
theorem fX11_50 : jFl RX11 50 9 11 := ⟨RX11, TX11, 31, rfl, by decide, wt 1306 (by decide +kernel) rfl, inX11⟩
theorem fX11_53 : jFl RX11 53 9 12 := ⟨RX11, TX11, 31, rfl, by decide, wt 1307 (by decide +kernel) rfl, inX11⟩
theorem fX11_56 : jFl RX11 56 9 13 := ⟨RX11, TX11, 31, rfl, by decide, wt 1308 (by decide +kernel) rfl, inX11⟩
theorem fX11_59 : jFl RX11 59 9 14 := ⟨RX11, TX11, 31, rfl, by decide, wt 1309 (by decide +kernel) rfl, inX11⟩
theorem fX11_62 : jFl RX11 62 9 16 := ⟨RX11, TX11, 31, rfl, by decide, wt 1311 (by decide +kernel) rfl, inX11⟩
theorem fX11_65 : jFl RX11 65 9 17 := ⟨RX11, TX11, 31, rfl, by decide, wt 1312 (by decide +kernel) rfl, inX11⟩
theorem fX11_68 : jFl RX11 68 9 18 := ⟨RX11, TX11, 31, rfl, by decide, wt 1313 (by decide +kernel) rfl, inX11⟩
theorem fX11_71 : jFl RX11 71 9 27 := ⟨RX11, TX11, 31, rfl, by decide, wt 1322 (by decide +kernel) rfl, inX11⟩
theorem fX11_74 : jFl RX11 74 9 28 := ⟨RX11, TX11, 31, rfl, by decide, wt 1323 (by decide +kernel) rfl, inX11⟩
theorem fX11_77 : jFl RX11 77 9 29 := ⟨RX11, TX11, 31, rfl, by decide, wt 1324 (by decide +kernel) rfl, inX11⟩
theorem fX11_87 : jFl RX11 87 9 0 := ⟨RX11, TX11, 31, rfl, by decide, wt 1295 (by decide +kernel) rfl, inX11⟩
theorem fX11_99 : jFlN RX11 RX11 99 8 0 := ⟨RX10, TX10, 9, rfl, by decide, by decide +kernel, inX10⟩
theorem fX11_132 : jFlN RX11 RX11 132 8 2 := ⟨RX10, TX10, 9, rfl, by decide, by decide +kernel, inX10⟩
theorem fX11_143 : jFlN RX11 RX11 143 8 3 := ⟨RX10, TX10, 9, rfl, by decide, by decide +kernel, inX10⟩
theorem fX11_146 : jFlN RX11 RX11 146 8 4 := ⟨RX10, TX10, 9, rfl, by decide, by decide +kernel, inX10⟩
theorem fX11_152 : jFlN RX11 RX11 152 8 5 := ⟨RX10, TX10, 9, rfl, by decide, by decide +kernel, inX10⟩
theorem fX11_155 : jFlN RX11 RX11 155 8 6 := ⟨RX10, TX10, 9, rfl, by decide, by decide +kernel, inX10⟩
theorem fX11_161 : jFlN RX11 RX11 161 8 7 := ⟨RX10, TX10, 9, rfl, by decide, by decide +kernel, inX10⟩
theorem fX11_164 : jFlN RX11 RX11 164 8 8 := ⟨RX10, TX10, 9, rfl, by decide, by decide +kernel, inX10⟩
theorem fX11_170 : jFlN RX11 RX11 170 8 1 := ⟨RX10, TX10, 9, rfl, by decide, by decide +kernel, inX10⟩
theorem fX11_202 : jFl RX11 202 9 5 := ⟨RX11, TX11, 31, rfl, by decide, wt 1300 (by decide +kernel) rfl, inX11⟩
theorem fX11_221 : jFl RX11 221 9 6 := ⟨RX11, TX11, 31, rfl, by decide, wt 1301 (by decide +kernel) rfl, inX11⟩
theorem fX11_239 : jFl RX11 239 9 15 := ⟨RX11, TX11, 31, rfl, by decide, wt 1310 (by decide +kernel) rfl, inX11⟩
theorem fX11_261 : jFl RX11 261 9 19 := ⟨RX11, TX11, 31, rfl, by decide, wt 1314 (by decide +kernel) rfl, inX11⟩
theorem fX11_264 : jFl RX11 264 9 20 := ⟨RX11, TX11, 31, rfl, by decide, wt 1315 (by decide +kernel) rfl, inX11⟩
theorem fX11_267 : jFl RX11 267 9 21 := ⟨RX11, TX11, 31, rfl, by decide, wt 1316 (by decide +kernel) rfl, inX11⟩
theorem fX11_273 : jFl RX11 273 9 23 := ⟨RX11, TX11, 31, rfl, by decide, wt 1318 (by decide +kernel) rfl, inX11⟩
theorem fX11_276 : jFl RX11 276 9 22 := ⟨RX11, TX11, 31, rfl, by decide, wt 1317 (by decide +kernel) rfl, inX11⟩
theorem fX11_279 : jFl RX11 279 9 24 := ⟨RX11, TX11, 31, rfl, by decide, wt 1319 (by decide +kernel) rfl, inX11⟩
theorem fX11_282 : jFl RX11 282 9 25 := ⟨RX11, TX11, 31, rfl, by decide, wt 1320 (by decide +kernel) rfl, inX11⟩
theorem fX11_285 : jFl RX11 285 9 26 := ⟨RX11, TX11, 31, rfl, by decide, wt 1321 (by decide +kernel) rfl, inX11⟩
theorem fX11_322 : jFl RX11 322 9 30 := ⟨RX11, TX11, 31, rfl, by decide, wt 1325 (by decide +kernel) rfl, inX11⟩
theorem fX10_9 : jFl RX10 9 8 1 := ⟨RX10, TX10, 9, rfl, by decide, wt 1259 (by decide +kernel) rfl, inX10⟩
theorem fX10_15 : jFl RX10 15 8 2 := ⟨RX10, TX10, 9, rfl, by decide, wt 1261 (by decide +kernel) rfl, inX10⟩
theorem fX10_18 : jFl RX10 18 8 3 := ⟨RX10, TX10, 9, rfl, by decide, wt 1263 (by decide +kernel) rfl, inX10⟩
theorem fX10_21 : jFl RX10 21 8 4 := ⟨RX10, TX10, 9, rfl, by decide, wt 1265 (by decide +kernel) rfl, inX10⟩
theorem fX10_24 : jFl RX10 24 8 5 := ⟨RX10, TX10, 9, rfl, by decide, wt 1267 (by decide +kernel) rfl, inX10⟩
theorem fX10_28 : jFl RX10 28 8 6 := ⟨RX10, TX10, 9, rfl, by decide, wt 1269 (by decide +kernel) rfl, inX10⟩
theorem fX10_31 : jFl RX10 31 8 0 := ⟨RX10, TX10, 9, rfl, by decide, wt 1257 (by decide +kernel) rfl, inX10⟩
theorem fX10_55 : jFl RX10 55 8 7 := ⟨RX10, TX10, 9, rfl, by decide, wt 1271 (by decide +kernel) rfl, inX10⟩
theorem fX10_58 : jFl RX10 58 8 8 := ⟨RX10, TX10, 9, rfl, by decide, wt 1273 (by decide +kernel) rfl, inX10⟩
theorem fX1_54 : Cond.fieldLink RX1 54 RX1 "SECOND_TONES" "[I" ∈ WT := wt 738 (by decide +kernel) rfl
theorem fX1_58 : Cond.fieldLink RX1 58 RX1 "THIRD_TONES" "[I" ∈ WT := wt 740 (by decide +kernel) rfl
theorem fX7_15 : Cond.fieldLink RX7 15 RX7 "HEIGHTS" "[I" ∈ WT := wt 885 (by decide +kernel) rfl
theorem fX7_24 : Cond.fieldLink RX7 24 RX7 "TURNS_AS_SHARP" "[I" ∈ WT := wt 646 (by decide +kernel) rfl
theorem fX8_7 : Cond.fieldLink RX8 7 RX8 "FALLING" "[I" ∈ WT := wt 594 (by decide +kernel) rfl
theorem fX11_7 : Cond.fieldLink RX11 7 RX11 "STEPS" "[I" ∈ WT := wt 1482 (by decide +kernel) rfl
theorem fX11_102 : Cond.fieldLink RX11 102 RX11 "VALUES" "[I" ∈ WT := wt 1413 (by decide +kernel) rfl
theorem fX11_193 : Cond.fieldLink RX11 193 RX11 "SHARPS" "[I" ∈ WT := wt 1573 (by decide +kernel) rfl
theorem nX9_9 : jNe RX9 9 6 13 [.null, .null, .null, .null, .null, .null, .null, .int 0, .int 0, .int 0, .int 0, .int 0, .int 0] := ⟨RX6, TX6, tyX6, rfl, inX6, tyX6_ok, wt 31 (by decide +kernel) rfl, wt 33 (by decide +kernel) rfl, wt 2 (by decide +kernel) rfl, by decide +kernel⟩
theorem nX9_16 : jNe RX9 16 0 5 [.null, .null, .null, .null, .int 0] := ⟨RX0, TX0, tyX0, rfl, inX0, tyX0_ok, wt 79 (by decide +kernel) rfl, wt 80 (by decide +kernel) rfl, wt 3 (by decide +kernel) rfl, by decide +kernel⟩
theorem nX9_23 : jNe RX9 23 5 11 [.null, .null, .null, .null, .null, .null, .null, .null, .null, .int 0, .int 0] := ⟨RX5, TX5, tyX5, rfl, inX5, tyX5_ok, wt 112 (by decide +kernel) rfl, wt 113 (by decide +kernel) rfl, wt 4 (by decide +kernel) rfl, by decide +kernel⟩
theorem nX9_30 : jNe RX9 30 3 4 [.null, .null, .null, .int 0] := ⟨RX3, TX3, tyX3, rfl, inX3, tyX3_ok, wt 153 (by decide +kernel) rfl, wt 154 (by decide +kernel) rfl, wt 5 (by decide +kernel) rfl, by decide +kernel⟩
theorem nX9_37 : jNe RX9 37 1 3 [.int 0, .int 0, .int 0] := ⟨RX1, TX1, tyX1, rfl, inX1, tyX1_ok, wt 172 (by decide +kernel) rfl, wt 173 (by decide +kernel) rfl, wt 6 (by decide +kernel) rfl, by decide +kernel⟩
theorem nX9_44 : jNe RX9 44 2 8 [.null, .null, .null, .null, .null, .null, .null, .int 0] := ⟨RX2, TX2, tyX2, rfl, inX2, tyX2_ok, wt 188 (by decide +kernel) rfl, wt 189 (by decide +kernel) rfl, wt 7 (by decide +kernel) rfl, by decide +kernel⟩
theorem nX9_51 : jNe RX9 51 4 5 [.null, .null, .null, .null, .int 0] := ⟨RX4, TX4, tyX4, rfl, inX4, tyX4_ok, wt 219 (by decide +kernel) rfl, wt 220 (by decide +kernel) rfl, wt 8 (by decide +kernel) rfl, by decide +kernel⟩
theorem nX9_102 : jThr "java/lang/IllegalStateException" 106 102 := ⟨wt 853 (by decide +kernel) rfl, wt 19 (by decide +kernel) rfl, by decide +kernel, by decide +kernel, by decide +kernel⟩
theorem nX9_130 : jThr "java/lang/IllegalArgumentException" 134 130 := ⟨wt 821 (by decide +kernel) rfl, wt 17 (by decide +kernel) rfl, by decide +kernel, by decide +kernel, by decide +kernel⟩
theorem nX9_353 : jThr "java/lang/IndexOutOfBoundsException" 357 353 := ⟨wt 499 (by decide +kernel) rfl, wt 15 (by decide +kernel) rfl, by decide +kernel, by decide +kernel, by decide +kernel⟩
theorem nL_8 : jNe RL 8 7 12 [.null, .null, .null, .null, .null, .null, .null, .int 0, .int 0, .int 0, .int 0, .int 0] := ⟨RX9, TX9, tyX9, rfl, inX9, tyX9_ok, wt 23 (by decide +kernel) rfl, wt 24 (by decide +kernel) rfl, wt 1 (by decide +kernel) rfl, by decide +kernel⟩
theorem nL_141 : jNe RL 141 9 31 [.int 0, .null, .null, .null, .null, .int 0, .int 0, .null, .null, .null, .null, .null, .null, .null, .null, .int 0, .null, .null, .null, .int 0, .int 0, .int 0, .int 0, .int 0, .int 0, .int 0, .int 0, .null, .null, .null, .long 0] := ⟨RX11, TX11, tyX11, rfl, inX11, tyX11_ok, wt 1244 (by decide +kernel) rfl, wt 1245 (by decide +kernel) rfl, wt 9 (by decide +kernel) rfl, by decide +kernel⟩
theorem nX11_22 : jNe RX11 22 8 9 [.int 0, .null, .null, .null, .null, .int 0, .int 0, .int 0, .int 0] := ⟨RX10, TX10, tyX10, rfl, inX10, tyX10_ok, wt 1250 (by decide +kernel) rfl, wt 1252 (by decide +kernel) rfl, wt 10 (by decide +kernel) rfl, by decide +kernel⟩
theorem acI : Cond.arrayClass .int ∈ WT := wt 78 (by decide +kernel) rfl
theorem acZ : Cond.arrayClass .boolean ∈ WT := wt 152 (by decide +kernel) rfl
theorem acL : Cond.arrayClass .long ∈ WT := wt 1809 (by decide +kernel) rfl
theorem vX9_305 : Cond.constantLong RX9 305 (2467) ∈ WT := wt 457 (by decide +kernel) rfl
theorem vX9_332 : Cond.constantLong RX9 332 (31) ∈ WT := wt 469 (by decide +kernel) rfl
theorem vX11_244 : Cond.constant RX11 244 (2147483647) ∈ WT := wt 1674 (by decide +kernel) rfl
theorem vX11_326 : Cond.constantLong RX11 326 (31) ∈ WT := wt 1804 (by decide +kernel) rfl
theorem vX11_330 : Cond.constantLong RX11 330 (2467) ∈ WT := wt 1799 (by decide +kernel) rfl
theorem vJ6_265 : Cond.constant RJ6 265 (1431655765) ∈ WT := wt 727 (by decide +kernel) rfl
theorem vJ6_266 : Cond.constant RJ6 266 (858993459) ∈ WT := wt 728 (by decide +kernel) rfl
theorem vJ6_267 : Cond.constant RJ6 267 (252645135) ∈ WT := wt 729 (by decide +kernel) rfl
