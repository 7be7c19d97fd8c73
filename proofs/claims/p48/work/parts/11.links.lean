theorem wt {w : Cond} (i : Nat) (h : tables_1[i]? = some w) (g : goodWord w = true) : w ∈ WT := List.mem_filter.mpr ⟨List.mem_append_right _ (List.mem_of_getElem? h), g⟩
theorem wt_p {y : MethodName} {n : Nat} (i : Nat) (h : lw_privs[i]? = some (y, n)) : Cond.selects y.cls y y ∈ WT := List.mem_filter.mpr ⟨List.mem_append_left _ (List.mem_map.mpr ⟨(y, n), List.mem_of_getElem? h, rfl⟩), rfl⟩
theorem wt_l {ws : List Cond} (ps : List Nat) (h : ws = ps.filterMap (fun i => tables_1[i]?)) (g : ws.all goodWord = true) : ∀ w ∈ ws, w ∈ WT := by
  intro w hw
  have h1 := List.all_eq_true.mp g w hw
  rw [h] at hw
  obtain ⟨i, -, hi⟩ := List.mem_filterMap.mp hw
  exact wt i hi h1
theorem wt_init {C : String} (i : Nat) (h : tables_1[i]? = some (Cond.initialized C)) : Cond.initialized C ∈ WT := wt i h rfl
/-- what a call wants of the callee -/
def jCe (y : MethodName) (M' : jM) (n : Nat) : Prop := Cond.initialized y.cls ∈ WT ∧ Cond.code y M'.cc M'.nL M'.ret ∈ WT ∧ (y.cls ≠ "java/lang/invoke/MethodHandle" ∧ y.cls ≠ "java/lang/invoke/VarHandle") ∧ (parseMethodDescriptor y.desc).map (fun d => d.parameters.length) = some n
theorem jLk.mk {own : String} {idx n : Nat} {y : MethodName} {M' : jM} (h1 : Cond.methodLink own idx y ∈ WT) (h : jCe y M' n) : jLk own idx y M' n := ⟨h1, h⟩
theorem inX0 : ∀ w ∈ u_ws RX0 TX0 5, w ∈ WT := wt_l [98, 100, 102, 104, 106] (by decide +kernel) (by decide +kernel)
theorem inX1 : ∀ w ∈ u_ws RX1 TX1 3, w ∈ WT := wt_l [178, 180, 182] (by decide +kernel) (by decide +kernel)
theorem inX2 : ∀ w ∈ u_ws RX2 TX2 8, w ∈ WT := wt_l [199, 201, 203, 205, 207, 209, 211, 213] (by decide +kernel) (by decide +kernel)
theorem inX3 : ∀ w ∈ u_ws RX3 TX3 4, w ∈ WT := wt_l [160, 162, 164, 166] (by decide +kernel) (by decide +kernel)
theorem inX4 : ∀ w ∈ u_ws RX4 TX4 5, w ∈ WT := wt_l [227, 229, 231, 233, 235] (by decide +kernel) (by decide +kernel)
theorem inX5 : ∀ w ∈ u_ws RX5 TX5 11, w ∈ WT := wt_l [126, 128, 130, 132, 134, 136, 138, 140, 142, 144, 146] (by decide +kernel) (by decide +kernel)
theorem inX6 : ∀ w ∈ u_ws RX6 TX6 13, w ∈ WT := wt_l [48, 50, 52, 54, 56, 58, 60, 62, 64, 66, 68, 70, 72] (by decide +kernel) (by decide +kernel)
theorem inX9 : ∀ w ∈ u_ws RX9 TX9 12, w ∈ WT := wt_l [250, 252, 254, 256, 258, 260, 262, 264, 266, 268, 270, 272] (by decide +kernel) (by decide +kernel)
theorem tyX0_beats : jTy 0 0 (.array .int) true := ⟨RX0, TX0, 5, tyX0, rfl, tyX0_ok, nmX0, by decide +kernel, rfl, rfl⟩
theorem tyX0_units : jTy 0 1 (.array .int) true := ⟨RX0, TX0, 5, tyX0, rfl, tyX0_ok, nmX0, by decide +kernel, rfl, rfl⟩
theorem tyX0_lengths : jTy 0 2 (.array .int) true := ⟨RX0, TX0, 5, tyX0, rfl, tyX0_ok, nmX0, by decide +kernel, rfl, rfl⟩
theorem tyX0_keys : jTy 0 3 (.array .int) true := ⟨RX0, TX0, 5, tyX0, rfl, tyX0_ok, nmX0, by decide +kernel, rfl, rfl⟩
theorem tyX0_end : jTy 0 4 .int false := ⟨RX0, TX0, 5, tyX0, rfl, tyX0_ok, nmX0, by decide +kernel, rfl, rfl⟩
theorem tyX1_root : jTy 1 0 .int false := ⟨RX1, TX1, 3, tyX1, rfl, tyX1_ok, nmX1, by decide +kernel, rfl, rfl⟩
theorem tyX1_kind : jTy 1 1 .int false := ⟨RX1, TX1, 3, tyX1, rfl, tyX1_ok, nmX1, by decide +kernel, rfl, rfl⟩
theorem tyX1_lowest : jTy 1 2 .int false := ⟨RX1, TX1, 3, tyX1, rfl, tyX1_ok, nmX1, by decide +kernel, rfl, rfl⟩
theorem tyX2_kinds : jTy 2 0 (.array .int) true := ⟨RX2, TX2, 8, tyX2, rfl, tyX2_ok, nmX2, by decide +kernel, rfl, rfl⟩
theorem tyX2_ticks : jTy 2 1 (.array .int) true := ⟨RX2, TX2, 8, tyX2, rfl, tyX2_ok, nmX2, by decide +kernel, rfl, rfl⟩
theorem tyX2_partCodes : jTy 2 2 (.array .int) true := ⟨RX2, TX2, 8, tyX2, rfl, tyX2_ok, nmX2, by decide +kernel, rfl, rfl⟩
theorem tyX2_heightsAhead : jTy 2 3 (.array .int) true := ⟨RX2, TX2, 8, tyX2, rfl, tyX2_ok, nmX2, by decide +kernel, rfl, rfl⟩
theorem tyX2_heightsNow : jTy 2 4 (.array .int) true := ⟨RX2, TX2, 8, tyX2, rfl, tyX2_ok, nmX2, by decide +kernel, rfl, rfl⟩
theorem tyX2_begins : jTy 2 5 (.array .boolean) true := ⟨RX2, TX2, 8, tyX2, rfl, tyX2_ok, nmX2, by decide +kernel, rfl, rfl⟩
theorem tyX2_ways : jTy 2 6 (.array .int) true := ⟨RX2, TX2, 8, tyX2, rfl, tyX2_ok, nmX2, by decide +kernel, rfl, rfl⟩
theorem tyX2_count : jTy 2 7 .int false := ⟨RX2, TX2, 8, tyX2, rfl, tyX2_ok, nmX2, by decide +kernel, rfl, rfl⟩
theorem tyX3_ticks : jTy 3 0 (.array .int) true := ⟨RX3, TX3, 4, tyX3, rfl, tyX3_ok, nmX3, by decide +kernel, rfl, rfl⟩
theorem tyX3_eventsThen : jTy 3 1 (.array .int) true := ⟨RX3, TX3, 4, tyX3, rfl, tyX3_ok, nmX3, by decide +kernel, rfl, rfl⟩
theorem tyX3_begun : jTy 3 2 (.array .int) true := ⟨RX3, TX3, 4, tyX3, rfl, tyX3_ok, nmX3, by decide +kernel, rfl, rfl⟩
theorem tyX3_count : jTy 3 3 .int false := ⟨RX3, TX3, 4, tyX3, rfl, tyX3_ok, nmX3, by decide +kernel, rfl, rfl⟩
theorem tyX4_widths : jTy 4 0 (.array .int) true := ⟨RX4, TX4, 5, tyX4, rfl, tyX4_ok, nmX4, by decide +kernel, rfl, rfl⟩
theorem tyX4_costs : jTy 4 1 (.array .int) true := ⟨RX4, TX4, 5, tyX4, rfl, tyX4_ok, nmX4, by decide +kernel, rfl, rfl⟩
theorem tyX4_nextLines : jTy 4 2 (.array .int) true := ⟨RX4, TX4, 5, tyX4, rfl, tyX4_ok, nmX4, by decide +kernel, rfl, rfl⟩
theorem tyX4_lineNumbers : jTy 4 3 (.array .int) true := ⟨RX4, TX4, 5, tyX4, rfl, tyX4_ok, nmX4, by decide +kernel, rfl, rfl⟩
theorem tyX4_lineCount : jTy 4 4 .int false := ⟨RX4, TX4, 5, tyX4, rfl, tyX4_ok, nmX4, by decide +kernel, rfl, rfl⟩
theorem tyX5_signEvents : jTy 5 0 (.array .int) true := ⟨RX5, TX5, 11, tyX5, rfl, tyX5_ok, nmX5, by decide +kernel, rfl, rfl⟩
theorem tyX5_ticks : jTy 5 1 (.array .int) true := ⟨RX5, TX5, 11, tyX5, rfl, tyX5_ok, nmX5, by decide +kernel, rfl, rfl⟩
theorem tyX5_lengths : jTy 5 2 (.array .int) true := ⟨RX5, TX5, 11, tyX5, rfl, tyX5_ok, nmX5, by decide +kernel, rfl, rfl⟩
theorem tyX5_firstOfNote : jTy 5 3 (.array .boolean) true := ⟨RX5, TX5, 11, tyX5, rfl, tyX5_ok, nmX5, by decide +kernel, rfl, rfl⟩
theorem tyX5_tied : jTy 5 4 (.array .boolean) true := ⟨RX5, TX5, 11, tyX5, rfl, tyX5_ok, nmX5, by decide +kernel, rfl, rfl⟩
theorem tyX5_shownAlters : jTy 5 5 (.array .int) true := ⟨RX5, TX5, 11, tyX5, rfl, tyX5_ok, nmX5, by decide +kernel, rfl, rfl⟩
theorem tyX5_shownAltersAsWritten : jTy 5 6 (.array .int) true := ⟨RX5, TX5, 11, tyX5, rfl, tyX5_ok, nmX5, by decide +kernel, rfl, rfl⟩
theorem tyX5_beamNumbers : jTy 5 7 (.array .int) true := ⟨RX5, TX5, 11, tyX5, rfl, tyX5_ok, nmX5, by decide +kernel, rfl, rfl⟩
theorem tyX5_altersInForce : jTy 5 8 (.array .int) true := ⟨RX5, TX5, 11, tyX5, rfl, tyX5_ok, nmX5, by decide +kernel, rfl, rfl⟩
theorem tyX5_count : jTy 5 9 .int false := ⟨RX5, TX5, 11, tyX5, rfl, tyX5_ok, nmX5, by decide +kernel, rfl, rfl⟩
theorem tyX5_beamCount : jTy 5 10 .int false := ⟨RX5, TX5, 11, tyX5, rfl, tyX5_ok, nmX5, by decide +kernel, rfl, rfl⟩
theorem tyX6_places : jTy 6 0 (.array .int) true := ⟨RX6, TX6, 13, tyX6, rfl, tyX6_ok, nmX6, by decide +kernel, rfl, rfl⟩
theorem tyX6_alters : jTy 6 1 (.array .int) true := ⟨RX6, TX6, 13, tyX6, rfl, tyX6_ok, nmX6, by decide +kernel, rfl, rfl⟩
theorem tyX6_heights : jTy 6 2 (.array .int) true := ⟨RX6, TX6, 13, tyX6, rfl, tyX6_ok, nmX6, by decide +kernel, rfl, rfl⟩
theorem tyX6_begins : jTy 6 3 (.array .int) true := ⟨RX6, TX6, 13, tyX6, rfl, tyX6_ok, nmX6, by decide +kernel, rfl, rfl⟩
theorem tyX6_lengths : jTy 6 4 (.array .int) true := ⟨RX6, TX6, 13, tyX6, rfl, tyX6_ok, nmX6, by decide +kernel, rfl, rfl⟩
theorem tyX6_writtenPlaces : jTy 6 5 (.array .int) true := ⟨RX6, TX6, 13, tyX6, rfl, tyX6_ok, nmX6, by decide +kernel, rfl, rfl⟩
theorem tyX6_writtenAlters : jTy 6 6 (.array .int) true := ⟨RX6, TX6, 13, tyX6, rfl, tyX6_ok, nmX6, by decide +kernel, rfl, rfl⟩
theorem tyX6_count : jTy 6 7 .int false := ⟨RX6, TX6, 13, tyX6, rfl, tyX6_ok, nmX6, by decide +kernel, rfl, rfl⟩
theorem tyX6_end : jTy 6 8 .int false := ⟨RX6, TX6, 13, tyX6, rfl, tyX6_ok, nmX6, by decide +kernel, rfl, rfl⟩
theorem tyX6_lowest : jTy 6 9 .int false := ⟨RX6, TX6, 13, tyX6, rfl, tyX6_ok, nmX6, by decide +kernel, rfl, rfl⟩
theorem tyX6_highest : jTy 6 10 .int false := ⟨RX6, TX6, 13, tyX6, rfl, tyX6_ok, nmX6, by decide +kernel, rfl, rfl⟩
theorem tyX6_fifths : jTy 6 11 .int false := ⟨RX6, TX6, 13, tyX6, rfl, tyX6_ok, nmX6, by decide +kernel, rfl, rfl⟩
theorem tyX6_octaves : jTy 6 12 .int false := ⟨RX6, TX6, 13, tyX6, rfl, tyX6_ok, nmX6, by decide +kernel, rfl, rfl⟩
theorem tyX9_parts : jTy 7 0 (.array (.object "ChoraleDesk$Part")) true := ⟨RX9, TX9, 12, tyX9, rfl, tyX9_ok, nmX9, by decide +kernel, rfl, rfl⟩
theorem tyX9_calendar : jTy 7 1 (.object "ChoraleDesk$Calendar") true := ⟨RX9, TX9, 12, tyX9, rfl, tyX9_ok, nmX9, by decide +kernel, rfl, rfl⟩
theorem tyX9_measure : jTy 7 2 (.object "ChoraleDesk$Measure") true := ⟨RX9, TX9, 12, tyX9, rfl, tyX9_ok, nmX9, by decide +kernel, rfl, rfl⟩
theorem tyX9_harmony : jTy 7 3 (.object "ChoraleDesk$Harmony") true := ⟨RX9, TX9, 12, tyX9, rfl, tyX9_ok, nmX9, by decide +kernel, rfl, rfl⟩
theorem tyX9_chord : jTy 7 4 (.object "ChoraleDesk$Chord") true := ⟨RX9, TX9, 12, tyX9, rfl, tyX9_ok, nmX9, by decide +kernel, rfl, rfl⟩
theorem tyX9_faultList : jTy 7 5 (.object "ChoraleDesk$FaultList") true := ⟨RX9, TX9, 12, tyX9, rfl, tyX9_ok, nmX9, by decide +kernel, rfl, rfl⟩
theorem tyX9_breaks : jTy 7 6 (.object "ChoraleDesk$LineBreaks") true := ⟨RX9, TX9, 12, tyX9, rfl, tyX9_ok, nmX9, by decide +kernel, rfl, rfl⟩
theorem tyX9_heard : jTy 7 7 .boolean false := ⟨RX9, TX9, 12, tyX9, rfl, tyX9_ok, nmX9, by decide +kernel, rfl, rfl⟩
theorem tyX9_searched : jTy 7 8 .boolean false := ⟨RX9, TX9, 12, tyX9, rfl, tyX9_ok, nmX9, by decide +kernel, rfl, rfl⟩
theorem tyX9_widthsKnown : jTy 7 9 .boolean false := ⟨RX9, TX9, 12, tyX9, rfl, tyX9_ok, nmX9, by decide +kernel, rfl, rfl⟩
theorem tyX9_laidPart : jTy 7 10 .int false := ⟨RX9, TX9, 12, tyX9, rfl, tyX9_ok, nmX9, by decide +kernel, rfl, rfl⟩
theorem tyX9_laidBar : jTy 7 11 .int false := ⟨RX9, TX9, 12, tyX9, rfl, tyX9_ok, nmX9, by decide +kernel, rfl, rfl⟩
abbrev mX0_init : jM := (RX0, cX0_init, 1, none, [], "<init>", { frames := 2, cells := 4, slots := 96, locals := 47 })
abbrev mX0_isBar : jM := (RX0, cX0_isBar, 1, some .boolean, [], "isBar", { frames := 0, cells := 0, slots := 0, locals := 0 })
abbrev mX0_changeMetre : jM := (RX0, cX0_changeMetre, 5, none, [], "changeMetre", { frames := 1, cells := 0, slots := 0, locals := 23 })
abbrev mX0_changeKey : jM := (RX0, cX0_changeKey, 4, none, [], "changeKey", { frames := 1, cells := 0, slots := 0, locals := 20 })
abbrev mX0_keyAt : jM := (RX0, cX0_keyAt, 2, some .int, [], "keyAt", { frames := 1, cells := 0, slots := 0, locals := 20 })
abbrev mX0_lengthAt : jM := (RX0, cX0_lengthAt, 2, some .int, [], "lengthAt", { frames := 1, cells := 0, slots := 0, locals := 20 })
abbrev mX0_beginAt : jM := (RX0, cX0_beginAt, 4, some .int, [], "beginAt", { frames := 0, cells := 0, slots := 0, locals := 0 })
abbrev mX0_end : jM := (RX0, cX0_end, 1, some .int, [], "end", { frames := 0, cells := 0, slots := 0, locals := 0 })
abbrev mX0_barAt : jM := (RX0, cX0_barAt, 4, some .int, [], "barAt", { frames := 0, cells := 0, slots := 0, locals := 0 })
abbrev mX0_barsUpTo : jM := (RX0, cX0_barsUpTo, 2, some .int, [], "barsUpTo", { frames := 1, cells := 0, slots := 0, locals := 23 })
abbrev mX0_ticksBehind : jM := (RX0, cX0_ticksBehind, 4, some .int, [], "ticksBehind", { frames := 2, cells := 0, slots := 0, locals := 41 })
abbrev mX0_groupLengthAt : jM := (RX0, cX0_groupLengthAt, 2, some .int, [], "groupLengthAt", { frames := 1, cells := 0, slots := 0, locals := 20 })
abbrev mX1_init : jM := (RX1, cX1_init, 1, none, [], "<init>", { frames := 1, cells := 0, slots := 0, locals := 20 })
abbrev mX1_rootClass : jM := (RX1, cX1_rootClass, 1, some .int, [], "rootClass", { frames := 0, cells := 0, slots := 0, locals := 0 })
abbrev mX1_kindNumber : jM := (RX1, cX1_kindNumber, 1, some .int, [], "kindNumber", { frames := 0, cells := 0, slots := 0, locals := 0 })
abbrev mX1_lowestTone : jM := (RX1, cX1_lowestTone, 1, some .int, [], "lowestTone", { frames := 0, cells := 0, slots := 0, locals := 0 })
abbrev mX1_tell : jM := (RX1, cX1_tell, 8, none, [], "tell", { frames := 2, cells := 0, slots := 0, locals := 50 })
abbrev mX1_forget : jM := (RX1, cX1_forget, 1, none, [], "forget", { frames := 0, cells := 0, slots := 0, locals := 0 })
abbrev mX1_findRoot : jM := (RX1, cX1_findRoot, 4, none, [], "findRoot", { frames := 1, cells := 0, slots := 0, locals := 27 })
abbrev mX1_findKind : jM := (RX1, cX1_findKind, 8, none, [], "findKind", { frames := 0, cells := 0, slots := 0, locals := 0 })
abbrev mX2_init : jM := (RX2, cX2_init, 1, none, [], "<init>", { frames := 1, cells := 7, slots := 7696, locals := 20 })
abbrev mX2_size : jM := (RX2, cX2_size, 1, some .int, [], "size", { frames := 0, cells := 0, slots := 0, locals := 0 })
abbrev mX2_has : jM := (RX2, cX2_has, 2, some .boolean, [], "has", { frames := 0, cells := 0, slots := 0, locals := 0 })
abbrev mX2_kindAt : jM := (RX2, cX2_kindAt, 2, some .int, [], "kindAt", { frames := 1, cells := 0, slots := 0, locals := 21 })
abbrev mX2_tickAt : jM := (RX2, cX2_tickAt, 2, some .int, [], "tickAt", { frames := 1, cells := 0, slots := 0, locals := 21 })
abbrev mX2_partsAt : jM := (RX2, cX2_partsAt, 2, some .int, [], "partsAt", { frames := 1, cells := 0, slots := 0, locals := 21 })
abbrev mX2_search : jM := (RX2, cX2_search, 6, none, [], "search", { frames := 3, cells := 0, slots := 0, locals := 68 })
abbrev mX2_add : jM := (RX2, cX2_add, 4, none, [], "add", { frames := 0, cells := 0, slots := 0, locals := 0 })
abbrev mX2_goOn : jM := (RX2, cX2_goOn, 6, none, [], "goOn", { frames := 2, cells := 0, slots := 0, locals := 43 })
abbrev mX2_searchParallels : jM := (RX2, cX2_searchParallels, 6, none, [], "searchParallels", { frames := 1, cells := 0, slots := 0, locals := 23 })
abbrev mX2_searchCrossings : jM := (RX2, cX2_searchCrossings, 5, none, [], "searchCrossings", { frames := 1, cells := 0, slots := 0, locals := 23 })
abbrev mX2_searchNote : jM := (RX2, cX2_searchNote, 5, none, [], "searchNote", { frames := 2, cells := 0, slots := 0, locals := 42 })
abbrev mX3_init : jM := (RX3, cX3_init, 1, none, [], "<init>", { frames := 1, cells := 3, slots := 2564, locals := 20 })
abbrev mX3_size : jM := (RX3, cX3_size, 1, some .int, [], "size", { frames := 0, cells := 0, slots := 0, locals := 0 })
abbrev mX3_has : jM := (RX3, cX3_has, 2, some .boolean, [], "has", { frames := 0, cells := 0, slots := 0, locals := 0 })
abbrev mX3_tickAt : jM := (RX3, cX3_tickAt, 2, some .int, [], "tickAt", { frames := 1, cells := 0, slots := 0, locals := 21 })
abbrev mX3_eventAt : jM := (RX3, cX3_eventAt, 3, some .int, [], "eventAt", { frames := 1, cells := 0, slots := 0, locals := 21 })
abbrev mX3_listen : jM := (RX3, cX3_listen, 5, none, [], "listen", { frames := 3, cells := 0, slots := 0, locals := 67 })
abbrev mX3_nextBegin : jM := (RX3, cX3_nextBegin, 6, some .int, [], "nextBegin", { frames := 2, cells := 0, slots := 0, locals := 42 })
abbrev mX3_eventGoingOn : jM := (RX3, cX3_eventGoingOn, 5, some .int, [], "eventGoingOn", { frames := 2, cells := 0, slots := 0, locals := 42 })
abbrev mX4_init : jM := (RX4, cX4_init, 1, none, [], "<init>", { frames := 1, cells := 4, slots := 97, locals := 20 })
abbrev mX4_size : jM := (RX4, cX4_size, 1, some .int, [], "size", { frames := 0, cells := 0, slots := 0, locals := 0 })
abbrev mX4_leastCost : jM := (RX4, cX4_leastCost, 1, some .int, [], "leastCost", { frames := 0, cells := 0, slots := 0, locals := 0 })
abbrev mX4_widthAt : jM := (RX4, cX4_widthAt, 2, some .int, [], "widthAt", { frames := 0, cells := 0, slots := 0, locals := 0 })
abbrev mX4_lineAt : jM := (RX4, cX4_lineAt, 2, some .int, [], "lineAt", { frames := 0, cells := 0, slots := 0, locals := 0 })
abbrev mX4_measureWidths : jM := (RX4, cX4_measureWidths, 9, none, [], "measureWidths", { frames := 2, cells := 0, slots := 0, locals := 42 })
abbrev mX4_widthOfGap : jM := (RX4, cX4_widthOfGap, 3, some .int, [], "widthOfGap", { frames := 0, cells := 0, slots := 0, locals := 0 })
abbrev mX4_breakUp : jM := (RX4, cX4_breakUp, 5, none, [], "breakUp", { frames := 1, cells := 0, slots := 0, locals := 28 })
abbrev mX4_chooseLine : jM := (RX4, cX4_chooseLine, 9, none, [], "chooseLine", { frames := 0, cells := 0, slots := 0, locals := 0 })
abbrev mX4_numberLines : jM := (RX4, cX4_numberLines, 4, none, [], "numberLines", { frames := 0, cells := 0, slots := 0, locals := 0 })
abbrev mX5_init : jM := (RX5, cX5_init, 1, none, [], "<init>", { frames := 1, cells := 9, slots := 1087, locals := 20 })
abbrev mX5_size : jM := (RX5, cX5_size, 1, some .int, [], "size", { frames := 0, cells := 0, slots := 0, locals := 0 })
abbrev mX5_beamTotal : jM := (RX5, cX5_beamTotal, 1, some .int, [], "beamTotal", { frames := 0, cells := 0, slots := 0, locals := 0 })
abbrev mX5_has : jM := (RX5, cX5_has, 2, some .boolean, [], "has", { frames := 0, cells := 0, slots := 0, locals := 0 })
abbrev mX5_eventAt : jM := (RX5, cX5_eventAt, 2, some .int, [], "eventAt", { frames := 1, cells := 0, slots := 0, locals := 21 })
abbrev mX5_lengthAt : jM := (RX5, cX5_lengthAt, 2, some .int, [], "lengthAt", { frames := 1, cells := 0, slots := 0, locals := 21 })
abbrev mX5_tiedAt : jM := (RX5, cX5_tiedAt, 2, some .boolean, [], "tiedAt", { frames := 1, cells := 0, slots := 0, locals := 21 })
abbrev mX5_shownAt : jM := (RX5, cX5_shownAt, 2, some .int, [], "shownAt", { frames := 1, cells := 0, slots := 0, locals := 21 })
abbrev mX5_shownAsWrittenAt : jM := (RX5, cX5_shownAsWrittenAt, 2, some .int, [], "shownAsWrittenAt", { frames := 1, cells := 0, slots := 0, locals := 21 })
abbrev mX5_beamAt : jM := (RX5, cX5_beamAt, 2, some .int, [], "beamAt", { frames := 1, cells := 0, slots := 0, locals := 21 })
abbrev mX5_write : jM := (RX5, cX5_write, 8, none, [], "write", { frames := 3, cells := 0, slots := 0, locals := 70 })
abbrev mX5_writeStretch : jM := (RX5, cX5_writeStretch, 7, none, [], "writeStretch", { frames := 1, cells := 0, slots := 0, locals := 23 })
abbrev mX5_addSign : jM := (RX5, cX5_addSign, 4, none, [], "addSign", { frames := 0, cells := 0, slots := 0, locals := 0 })
abbrev mX5_markSigns : jM := (RX5, cX5_markSigns, 6, none, [], "markSigns", { frames := 2, cells := 0, slots := 0, locals := 42 })
abbrev mX5_beamSigns : jM := (RX5, cX5_beamSigns, 7, none, [], "beamSigns", { frames := 2, cells := 0, slots := 0, locals := 42 })
abbrev mX5_joinToSignAhead : jM := (RX5, cX5_joinToSignAhead, 2, none, [], "joinToSignAhead", { frames := 1, cells := 0, slots := 0, locals := 21 })
abbrev mX5_showAlters : jM := (RX5, cX5_showAlters, 5, none, [], "showAlters", { frames := 2, cells := 0, slots := 0, locals := 46 })
abbrev mX5_showAltersAsWritten : jM := (RX5, cX5_showAltersAsWritten, 5, none, [], "showAltersAsWritten", { frames := 2, cells := 0, slots := 0, locals := 46 })
abbrev mX5_alterToShow : jM := (RX5, cX5_alterToShow, 5, some .int, [], "alterToShow", { frames := 1, cells := 0, slots := 0, locals := 22 })
abbrev mX6_init : jM := (RX6, cX6_init, 1, none, [], "<init>", { frames := 1, cells := 7, slots := 3584, locals := 20 })
abbrev mX6_size : jM := (RX6, cX6_size, 1, some .int, [], "size", { frames := 0, cells := 0, slots := 0, locals := 0 })
abbrev mX6_end : jM := (RX6, cX6_end, 1, some .int, [], "end", { frames := 0, cells := 0, slots := 0, locals := 0 })
abbrev mX6_has : jM := (RX6, cX6_has, 2, some .boolean, [], "has", { frames := 0, cells := 0, slots := 0, locals := 0 })
abbrev mX6_append : jM := (RX6, cX6_append, 5, some .int, [], "append", { frames := 4, cells := 0, slots := 0, locals := 91 })
abbrev mX6_removeLast : jM := (RX6, cX6_removeLast, 2, some .int, [], "removeLast", { frames := 1, cells := 0, slots := 0, locals := 21 })
abbrev mX6_givePitch : jM := (RX6, cX6_givePitch, 4, none, [], "givePitch", { frames := 3, cells := 0, slots := 0, locals := 68 })
abbrev mX6_writeForInstrument : jM := (RX6, cX6_writeForInstrument, 5, none, [], "writeForInstrument", { frames := 2, cells := 0, slots := 0, locals := 44 })
abbrev mX6_changeRange : jM := (RX6, cX6_changeRange, 3, none, [], "changeRange", { frames := 0, cells := 0, slots := 0, locals := 0 })
abbrev mX6_changeShift : jM := (RX6, cX6_changeShift, 4, none, [], "changeShift", { frames := 3, cells := 0, slots := 0, locals := 68 })
abbrev mX6_isNote : jM := (RX6, cX6_isNote, 2, some .boolean, [], "isNote", { frames := 1, cells := 0, slots := 0, locals := 21 })
abbrev mX6_placeAt : jM := (RX6, cX6_placeAt, 2, some .int, [], "placeAt", { frames := 1, cells := 0, slots := 0, locals := 21 })
abbrev mX6_alterAt : jM := (RX6, cX6_alterAt, 2, some .int, [], "alterAt", { frames := 1, cells := 0, slots := 0, locals := 21 })
abbrev mX6_heightAt : jM := (RX6, cX6_heightAt, 2, some .int, [], "heightAt", { frames := 1, cells := 0, slots := 0, locals := 21 })
abbrev mX6_beginAt : jM := (RX6, cX6_beginAt, 2, some .int, [], "beginAt", { frames := 1, cells := 0, slots := 0, locals := 21 })
abbrev mX6_endAt : jM := (RX6, cX6_endAt, 2, some .int, [], "endAt", { frames := 1, cells := 0, slots := 0, locals := 21 })
abbrev mX6_firstEndingBehind : jM := (RX6, cX6_firstEndingBehind, 6, some .int, [], "firstEndingBehind", { frames := 2, cells := 0, slots := 0, locals := 42 })
abbrev mX6_isOutOfRange : jM := (RX6, cX6_isOutOfRange, 2, some .boolean, [], "isOutOfRange", { frames := 1, cells := 0, slots := 0, locals := 21 })
abbrev mX6_writtenPlaceAt : jM := (RX6, cX6_writtenPlaceAt, 2, some .int, [], "writtenPlaceAt", { frames := 1, cells := 0, slots := 0, locals := 21 })
abbrev mX6_writtenAlterAt : jM := (RX6, cX6_writtenAlterAt, 2, some .int, [], "writtenAlterAt", { frames := 1, cells := 0, slots := 0, locals := 21 })
abbrev mX6_keyAsWritten : jM := (RX6, cX6_keyAsWritten, 3, some .int, [], "keyAsWritten", { frames := 0, cells := 0, slots := 0, locals := 0 })
abbrev mX6_notesOutOfRange : jM := (RX6, cX6_notesOutOfRange, 3, some .int, [], "notesOutOfRange", { frames := 2, cells := 0, slots := 0, locals := 42 })
abbrev mX6_notesWithoutWrittenPitch : jM := (RX6, cX6_notesWithoutWrittenPitch, 3, some .int, [], "notesWithoutWrittenPitch", { frames := 2, cells := 0, slots := 0, locals := 42 })
abbrev mX7_isPitch : jM := (RX7, cX7_isPitch, 2, some .boolean, [], "isPitch", { frames := 0, cells := 0, slots := 0, locals := 0 })
abbrev mX7_plainHeight : jM := (RX7, cX7_plainHeight, 3, some .int, [], "plainHeight", { frames := 1, cells := 0, slots := 0, locals := 22 })
abbrev mX7_alterByKey : jM := (RX7, cX7_alterByKey, 3, some .int, [], "alterByKey", { frames := 0, cells := 0, slots := 0, locals := 0 })
abbrev mX8_isValue : jM := (RX8, cX8_isValue, 2, some .boolean, [], "isValue", { frames := 0, cells := 0, slots := 0, locals := 0 })
abbrev mX8_greatestIn : jM := (RX8, cX8_greatestIn, 2, some .int, [], "greatestIn", { frames := 0, cells := 0, slots := 0, locals := 0 })
abbrev mX9_init : jM := (RX9, cX9_init, 2, none, [], "<init>", { frames := 3, cells := 66, slots := 25968, locals := 67 })
abbrev mX9_addNote : jM := (RX9, cX9_addNote, 6, some .int, [], "addNote", { frames := 7, cells := 1, slots := 6, locals := 115 })
abbrev mX9_addRest : jM := (RX9, cX9_addRest, 4, some .int, [], "addRest", { frames := 7, cells := 1, slots := 6, locals := 115 })
abbrev mX9_takeLast : jM := (RX9, cX9_takeLast, 3, some .int, [], "takeLast", { frames := 7, cells := 1, slots := 6, locals := 111 })
abbrev mX9_setPitch : jM := (RX9, cX9_setPitch, 7, some .int, [], "setPitch", { frames := 8, cells := 1, slots := 6, locals := 134 })
abbrev mX9_setMetre : jM := (RX9, cX9_setMetre, 4, some .int, [], "setMetre", { frames := 7, cells := 1, slots := 6, locals := 110 })
abbrev mX9_setKey : jM := (RX9, cX9_setKey, 4, some .int, [], "setKey", { frames := 7, cells := 1, slots := 6, locals := 110 })
abbrev mX9_setRange : jM := (RX9, cX9_setRange, 5, some .int, [], "setRange", { frames := 7, cells := 1, slots := 6, locals := 111 })
abbrev mX9_setShift : jM := (RX9, cX9_setShift, 5, some .int, [], "setShift", { frames := 7, cells := 1, slots := 6, locals := 111 })
abbrev mX9_events : jM := (RX9, cX9_events, 2, some .int, [], "events", { frames := 7, cells := 1, slots := 6, locals := 111 })
abbrev mX9_heightOf : jM := (RX9, cX9_heightOf, 3, some .int, [], "heightOf", { frames := 8, cells := 1, slots := 6, locals := 134 })
abbrev mX9_writtenPlace : jM := (RX9, cX9_writtenPlace, 3, some .int, [], "writtenPlace", { frames := 8, cells := 1, slots := 6, locals := 134 })
abbrev mX9_writtenAlter : jM := (RX9, cX9_writtenAlter, 3, some .int, [], "writtenAlter", { frames := 8, cells := 1, slots := 6, locals := 134 })
abbrev mX9_beginOfBar : jM := (RX9, cX9_beginOfBar, 2, some .int, [], "beginOfBar", { frames := 7, cells := 1, slots := 6, locals := 110 })
abbrev mX9_lengthOfBar : jM := (RX9, cX9_lengthOfBar, 2, some .int, [], "lengthOfBar", { frames := 7, cells := 1, slots := 6, locals := 110 })
abbrev mX9_signs : jM := (RX9, cX9_signs, 3, some .int, [], "signs", { frames := 8, cells := 1, slots := 6, locals := 134 })
abbrev mX9_eventOf : jM := (RX9, cX9_eventOf, 4, some .int, [], "eventOf", { frames := 9, cells := 1, slots := 6, locals := 158 })
abbrev mX9_lengthOf : jM := (RX9, cX9_lengthOf, 4, some .int, [], "lengthOf", { frames := 9, cells := 1, slots := 6, locals := 158 })
abbrev mX9_isTied : jM := (RX9, cX9_isTied, 4, some .boolean, [], "isTied", { frames := 9, cells := 1, slots := 6, locals := 158 })
abbrev mX9_shown : jM := (RX9, cX9_shown, 4, some .int, [], "shown", { frames := 9, cells := 1, slots := 6, locals := 158 })
abbrev mX9_shownWritten : jM := (RX9, cX9_shownWritten, 4, some .int, [], "shownWritten", { frames := 9, cells := 1, slots := 6, locals := 158 })
abbrev mX9_beams : jM := (RX9, cX9_beams, 3, some .int, [], "beams", { frames := 8, cells := 1, slots := 6, locals := 134 })
abbrev mX9_beamOf : jM := (RX9, cX9_beamOf, 4, some .int, [], "beamOf", { frames := 9, cells := 1, slots := 6, locals := 158 })
abbrev mX9_missing : jM := (RX9, cX9_missing, 4, some .int, [], "missing", { frames := 7, cells := 1, slots := 6, locals := 111 })
abbrev mX9_moments : jM := (RX9, cX9_moments, 1, some .int, [], "moments", { frames := 5, cells := 0, slots := 0, locals := 111 })
abbrev mX9_tickOf : jM := (RX9, cX9_tickOf, 2, some .int, [], "tickOf", { frames := 7, cells := 1, slots := 6, locals := 132 })
abbrev mX9_root : jM := (RX9, cX9_root, 2, some .int, [], "root", { frames := 7, cells := 1, slots := 6, locals := 132 })
abbrev mX9_kind : jM := (RX9, cX9_kind, 2, some .int, [], "kind", { frames := 7, cells := 1, slots := 6, locals := 132 })
abbrev mX9_inversion : jM := (RX9, cX9_inversion, 2, some .int, [], "inversion", { frames := 7, cells := 1, slots := 6, locals := 132 })
abbrev mX9_faults : jM := (RX9, cX9_faults, 1, some .int, [], "faults", { frames := 6, cells := 0, slots := 0, locals := 131 })
abbrev mX9_kindOfFault : jM := (RX9, cX9_kindOfFault, 2, some .int, [], "kindOfFault", { frames := 7, cells := 1, slots := 6, locals := 131 })
abbrev mX9_tickOfFault : jM := (RX9, cX9_tickOfFault, 2, some .int, [], "tickOfFault", { frames := 7, cells := 1, slots := 6, locals := 131 })
abbrev mX9_partsOfFault : jM := (RX9, cX9_partsOfFault, 2, some .int, [], "partsOfFault", { frames := 7, cells := 1, slots := 6, locals := 131 })
abbrev mX9_bars : jM := (RX9, cX9_bars, 1, some .int, [], "bars", { frames := 2, cells := 0, slots := 0, locals := 44 })
abbrev mX9_widthOf : jM := (RX9, cX9_widthOf, 2, some .int, [], "widthOf", { frames := 7, cells := 1, slots := 6, locals := 131 })
abbrev mX9_lines : jM := (RX9, cX9_lines, 2, some .int, [], "lines", { frames := 7, cells := 1, slots := 6, locals := 131 })
abbrev mX9_lineOf : jM := (RX9, cX9_lineOf, 3, some .int, [], "lineOf", { frames := 7, cells := 1, slots := 6, locals := 131 })
abbrev mX9_costOf : jM := (RX9, cX9_costOf, 2, some .int, [], "costOf", { frames := 7, cells := 1, slots := 6, locals := 131 })
abbrev mX9_digest : jM := (RX9, cX9_digest, 4, some .long, [], "digest", { frames := 9, cells := 1, slots := 6, locals := 159 })
abbrev mX9_mix : jM := (RX9, cX9_mix, 4, some .long, [], "mix", { frames := 0, cells := 0, slots := 0, locals := 0 })
abbrev mX9_mixPart : jM := (RX9, cX9_mixPart, 5, some .long, [], "mixPart", { frames := 2, cells := 0, slots := 0, locals := 42 })
abbrev mX9_mixBar : jM := (RX9, cX9_mixBar, 6, some .long, [], "mixBar", { frames := 8, cells := 1, slots := 6, locals := 134 })
abbrev mX9_mixSigns : jM := (RX9, cX9_mixSigns, 5, some .long, [], "mixSigns", { frames := 2, cells := 0, slots := 0, locals := 42 })
abbrev mX9_mixMoments : jM := (RX9, cX9_mixMoments, 5, some .long, [], "mixMoments", { frames := 4, cells := 0, slots := 0, locals := 98 })
abbrev mX9_mixFaults : jM := (RX9, cX9_mixFaults, 4, some .long, [], "mixFaults", { frames := 2, cells := 0, slots := 0, locals := 42 })
abbrev mX9_mixLines : jM := (RX9, cX9_mixLines, 4, some .long, [], "mixLines", { frames := 3, cells := 0, slots := 0, locals := 73 })
abbrev mX9_forgetWhatFollows : jM := (RX9, cX9_forgetWhatFollows, 1, none, [], "forgetWhatFollows", { frames := 0, cells := 0, slots := 0, locals := 0 })
abbrev mX9_hear : jM := (RX9, cX9_hear, 1, none, [], "hear", { frames := 4, cells := 0, slots := 0, locals := 91 })
abbrev mX9_searchFaults : jM := (RX9, cX9_searchFaults, 1, none, [], "searchFaults", { frames := 5, cells := 0, slots := 0, locals := 111 })
abbrev mX9_measureWidths : jM := (RX9, cX9_measureWidths, 1, none, [], "measureWidths", { frames := 5, cells := 0, slots := 0, locals := 111 })
abbrev mX9_breakLines : jM := (RX9, cX9_breakLines, 2, none, [], "breakLines", { frames := 2, cells := 0, slots := 0, locals := 52 })
abbrev mX9_lastEnd : jM := (RX9, cX9_lastEnd, 3, some .int, [], "lastEnd", { frames := 1, cells := 0, slots := 0, locals := 21 })
abbrev mX9_allEvents : jM := (RX9, cX9_allEvents, 3, some .int, [], "allEvents", { frames := 1, cells := 0, slots := 0, locals := 20 })
abbrev mX9_partAt : jM := (RX9, cX9_partAt, 2, some (.object "ChoraleDesk$Part"), [], "partAt", { frames := 6, cells := 1, slots := 6, locals := 90 })
abbrev mX9_partWith : jM := (RX9, cX9_partWith, 4, some (.object "ChoraleDesk$Part"), [], "partWith", { frames := 7, cells := 1, slots := 6, locals := 111 })
abbrev mX9_measureAt : jM := (RX9, cX9_measureAt, 4, some (.object "ChoraleDesk$Measure"), [], "measureAt", { frames := 7, cells := 1, slots := 6, locals := 111 })
abbrev mX9_measureWith : jM := (RX9, cX9_measureWith, 5, some (.object "ChoraleDesk$Measure"), [], "measureWith", { frames := 8, cells := 1, slots := 6, locals := 134 })
abbrev mX9_chordAt : jM := (RX9, cX9_chordAt, 2, some (.object "ChoraleDesk$Chord"), [], "chordAt", { frames := 3, cells := 0, slots := 0, locals := 77 })
abbrev mX9_checkMoment : jM := (RX9, cX9_checkMoment, 2, none, [], "checkMoment", { frames := 6, cells := 1, slots := 6, locals := 111 })
abbrev mX9_checkFault : jM := (RX9, cX9_checkFault, 2, none, [], "checkFault", { frames := 6, cells := 1, slots := 6, locals := 90 })
abbrev mX9_checkRoom : jM := (RX9, cX9_checkRoom, 3, none, [], "checkRoom", { frames := 6, cells := 1, slots := 6, locals := 90 })
abbrev mX9_checkNote : jM := (RX9, cX9_checkNote, 2, none, [], "checkNote", { frames := 6, cells := 1, slots := 6, locals := 90 })
abbrev mX9_checkBar : jM := (RX9, cX9_checkBar, 1, none, [], "checkBar", { frames := 6, cells := 1, slots := 6, locals := 90 })
abbrev mX9_checkPitch : jM := (RX9, cX9_checkPitch, 2, none, [], "checkPitch", { frames := 6, cells := 1, slots := 6, locals := 90 })
abbrev mX9_checkValue : jM := (RX9, cX9_checkValue, 1, none, [], "checkValue", { frames := 6, cells := 1, slots := 6, locals := 90 })
abbrev mX9_checkKey : jM := (RX9, cX9_checkKey, 1, none, [], "checkKey", { frames := 6, cells := 1, slots := 6, locals := 90 })
abbrev mX9_checkWidth : jM := (RX9, cX9_checkWidth, 1, none, [], "checkWidth", { frames := 6, cells := 1, slots := 6, locals := 90 })
abbrev mJ6_compare_7cf53 : jM := (RJ6, cJ6_compare_7cf53, 2, some .int, [], "compare", { frames := 0, cells := 0, slots := 0, locals := 0 })
abbrev mJ6_bitCount_0f7a4 : jM := (RJ6, cJ6_bitCount_0f7a4, 1, some .int, [], "bitCount", { frames := 0, cells := 0, slots := 0, locals := 0 })
abbrev mJ9_floorDiv_7cf53 : jM := (RJ9, cJ9_floorDiv_7cf53, 3, some .int, [], "floorDiv", { frames := 0, cells := 0, slots := 0, locals := 0 })
abbrev mJ9_floorMod_7cf53 : jM := (RJ9, cJ9_floorMod_7cf53, 3, some .int, [], "floorMod", { frames := 0, cells := 0, slots := 0, locals := 0 })
abbrev mJ9_abs_0f7a4 : jM := (RJ9, cJ9_abs_0f7a4, 1, some .int, [], "abs", { frames := 0, cells := 0, slots := 0, locals := 0 })
abbrev mJ9_max_7cf53 : jM := (RJ9, cJ9_max_7cf53, 2, some .int, [], "max", { frames := 0, cells := 0, slots := 0, locals := 0 })
abbrev mJ9_min_7cf53 : jM := (RJ9, cJ9_min_7cf53, 2, some .int, [], "min", { frames := 0, cells := 0, slots := 0, locals := 0 })
abbrev mJ7_fill_53178 : jM := (RJ7, cJ7_fill_53178, 4, none, [], "fill", { frames := 0, cells := 0, slots := 0, locals := 0 })
abbrev mL_below : jM := (RL, cL_below, 2, some .int, [], "below", { frames := 0, cells := 0, slots := 0, locals := 0 })
abbrev mL_cell : jM := (RL, cL_cell, 2, some .int, [], "cell", { frames := 0, cells := 0, slots := 0, locals := 0 })
abbrev mL_act : jM := (RL, cL_act, 6, none, [((76), (369), (372), (77)), ((76), (369), (375), (79))], "act", { frames := 9, cells := 1, slots := 6, locals := 160 })
abbrev mL_isBarSound : jM := (RL, cL_isBarSound, 13, some .boolean, [], "isBarSound", { frames := 10, cells := 1, slots := 6, locals := 181 })
abbrev mL_areMomentsSound : jM := (RL, cL_areMomentsSound, 9, some .boolean, [], "areMomentsSound", { frames := 8, cells := 1, slots := 6, locals := 153 })
abbrev mL_areLinesSound : jM := (RL, cL_areLinesSound, 8, some .boolean, [], "areLinesSound", { frames := 8, cells := 1, slots := 6, locals := 153 })
theorem ceX0_changeMetre : jCe yX0_changeMetre mX0_changeMetre 3 := ⟨wt 3 (by decide +kernel) rfl, wt 85 (by decide +kernel) rfl, by decide +kernel, by decide +kernel⟩
theorem cvX0_changeMetre : Cond.instanceMethod yX0_changeMetre ∈ WT ∧ Cond.selects yX0_changeMetre.cls yX0_changeMetre yX0_changeMetre ∈ WT ∧ vwCl[0]? = some (yX0_changeMetre.cls, TX0, 5) := ⟨wt 83 (by decide +kernel) rfl, wt 84 (by decide +kernel) rfl, rfl⟩
theorem ceX0_isBar : jCe yX0_isBar mX0_isBar 1 := ⟨wt 3 (by decide +kernel) rfl, wt 88 (by decide +kernel) rfl, by decide +kernel, by decide +kernel⟩
theorem csX0_isBar : Cond.static yX0_isBar ∈ WT := wt 87 (by decide +kernel) rfl
theorem ceX0_beginAt : jCe yX0_beginAt mX0_beginAt 1 := ⟨wt 3 (by decide +kernel) rfl, wt 92 (by decide +kernel) rfl, by decide +kernel, by decide +kernel⟩
theorem cvX0_beginAt : Cond.instanceMethod yX0_beginAt ∈ WT ∧ Cond.selects yX0_beginAt.cls yX0_beginAt yX0_beginAt ∈ WT ∧ vwCl[0]? = some (yX0_beginAt.cls, TX0, 5) := ⟨wt 90 (by decide +kernel) rfl, wt 91 (by decide +kernel) rfl, rfl⟩
theorem ceX0_barAt : jCe yX0_barAt mX0_barAt 1 := ⟨wt 3 (by decide +kernel) rfl, wt 422 (by decide +kernel) rfl, by decide +kernel, by decide +kernel⟩
theorem cvX0_barAt : Cond.instanceMethod yX0_barAt ∈ WT ∧ Cond.selects yX0_barAt.cls yX0_barAt yX0_barAt ∈ WT ∧ vwCl[0]? = some (yX0_barAt.cls, TX0, 5) := ⟨wt 420 (by decide +kernel) rfl, wt 421 (by decide +kernel) rfl, rfl⟩
theorem ceX0_lengthAt : jCe yX0_lengthAt mX0_lengthAt 1 := ⟨wt 3 (by decide +kernel) rfl, wt 326 (by decide +kernel) rfl, by decide +kernel, by decide +kernel⟩
theorem cvX0_lengthAt : Cond.instanceMethod yX0_lengthAt ∈ WT ∧ Cond.selects yX0_lengthAt.cls yX0_lengthAt yX0_lengthAt ∈ WT ∧ vwCl[0]? = some (yX0_lengthAt.cls, TX0, 5) := ⟨wt 324 (by decide +kernel) rfl, wt 325 (by decide +kernel) rfl, rfl⟩
theorem ceJ9_min_7cf53 : jCe yJ9_min_7cf53 mJ9_min_7cf53 2 := ⟨wt 17 (by decide +kernel) rfl, wt 309 (by decide +kernel) rfl, by decide +kernel, by decide +kernel⟩
theorem csJ9_min_7cf53 : Cond.static yJ9_min_7cf53 ∈ WT := wt 308 (by decide +kernel) rfl
theorem ceJ9_max_7cf53 : jCe yJ9_max_7cf53 mJ9_max_7cf53 2 := ⟨wt 17 (by decide +kernel) rfl, wt 538 (by decide +kernel) rfl, by decide +kernel, by decide +kernel⟩
theorem csJ9_max_7cf53 : Cond.static yJ9_max_7cf53 ∈ WT := wt 537 (by decide +kernel) rfl
theorem ceX3_eventAt : jCe yX3_eventAt mX3_eventAt 2 := ⟨wt 5 (by decide +kernel) rfl, wt 367 (by decide +kernel) rfl, by decide +kernel, by decide +kernel⟩
theorem cvX3_eventAt : Cond.instanceMethod yX3_eventAt ∈ WT ∧ Cond.selects yX3_eventAt.cls yX3_eventAt yX3_eventAt ∈ WT ∧ vwCl[3]? = some (yX3_eventAt.cls, TX3, 4) := ⟨wt 365 (by decide +kernel) rfl, wt 366 (by decide +kernel) rfl, rfl⟩
theorem ceX6_heightAt : jCe yX6_heightAt mX6_heightAt 1 := ⟨wt 2 (by decide +kernel) rfl, wt 371 (by decide +kernel) rfl, by decide +kernel, by decide +kernel⟩
theorem cvX6_heightAt : Cond.instanceMethod yX6_heightAt ∈ WT ∧ Cond.selects yX6_heightAt.cls yX6_heightAt yX6_heightAt ∈ WT ∧ vwCl[6]? = some (yX6_heightAt.cls, TX6, 13) := ⟨wt 369 (by decide +kernel) rfl, wt 370 (by decide +kernel) rfl, rfl⟩
theorem ceX1_forget : jCe yX1_forget mX1_forget 0 := ⟨wt 6 (by decide +kernel) rfl, wt 680 (by decide +kernel) rfl, by decide +kernel, by decide +kernel⟩
theorem cvX1_forget : Cond.instanceMethod yX1_forget ∈ WT ∧ Cond.selects yX1_forget.cls yX1_forget yX1_forget ∈ WT ∧ vwCl[1]? = some (yX1_forget.cls, TX1, 3) := ⟨wt 679 (by decide +kernel) rfl, wt_p 26 (by decide +kernel : _ = some (_, 3)), rfl⟩
theorem ceJ6_bitCount_0f7a4 : jCe yJ6_bitCount_0f7a4 mJ6_bitCount_0f7a4 1 := ⟨wt 19 (by decide +kernel) rfl, wt 683 (by decide +kernel) rfl, by decide +kernel, by decide +kernel⟩
theorem csJ6_bitCount_0f7a4 : Cond.static yJ6_bitCount_0f7a4 ∈ WT := wt 682 (by decide +kernel) rfl
theorem ceX1_findRoot : jCe yX1_findRoot mX1_findRoot 2 := ⟨wt 6 (by decide +kernel) rfl, wt 690 (by decide +kernel) rfl, by decide +kernel, by decide +kernel⟩
theorem cvX1_findRoot : Cond.instanceMethod yX1_findRoot ∈ WT ∧ Cond.selects yX1_findRoot.cls yX1_findRoot yX1_findRoot ∈ WT ∧ vwCl[1]? = some (yX1_findRoot.cls, TX1, 3) := ⟨wt 689 (by decide +kernel) rfl, wt_p 27 (by decide +kernel : _ = some (_, 3)), rfl⟩
theorem ceX1_findKind : jCe yX1_findKind mX1_findKind 3 := ⟨wt 6 (by decide +kernel) rfl, wt 694 (by decide +kernel) rfl, by decide +kernel, by decide +kernel⟩
theorem cvX1_findKind : Cond.instanceMethod yX1_findKind ∈ WT ∧ Cond.selects yX1_findKind.cls yX1_findKind yX1_findKind ∈ WT ∧ vwCl[1]? = some (yX1_findKind.cls, TX1, 3) := ⟨wt 693 (by decide +kernel) rfl, wt_p 28 (by decide +kernel : _ = some (_, 3)), rfl⟩
theorem ceX2_has : jCe yX2_has mX2_has 1 := ⟨wt 7 (by decide +kernel) rfl, wt 726 (by decide +kernel) rfl, by decide +kernel, by decide +kernel⟩
theorem cvX2_has : Cond.instanceMethod yX2_has ∈ WT ∧ Cond.selects yX2_has.cls yX2_has yX2_has ∈ WT ∧ vwCl[2]? = some (yX2_has.cls, TX2, 8) := ⟨wt 724 (by decide +kernel) rfl, wt 725 (by decide +kernel) rfl, rfl⟩
theorem ceJ7_fill_53178 : jCe yJ7_fill_53178 mJ7_fill_53178 2 := ⟨wt 18 (by decide +kernel) rfl, wt 293 (by decide +kernel) rfl, by decide +kernel, by decide +kernel⟩
theorem csJ7_fill_53178 : Cond.static yJ7_fill_53178 ∈ WT := wt 292 (by decide +kernel) rfl
theorem ceX3_size : jCe yX3_size mX3_size 0 := ⟨wt 5 (by decide +kernel) rfl, wt 337 (by decide +kernel) rfl, by decide +kernel, by decide +kernel⟩
theorem cvX3_size : Cond.instanceMethod yX3_size ∈ WT ∧ Cond.selects yX3_size.cls yX3_size yX3_size ∈ WT ∧ vwCl[3]? = some (yX3_size.cls, TX3, 4) := ⟨wt 335 (by decide +kernel) rfl, wt 336 (by decide +kernel) rfl, rfl⟩
theorem ceX3_tickAt : jCe yX3_tickAt mX3_tickAt 1 := ⟨wt 5 (by decide +kernel) rfl, wt 341 (by decide +kernel) rfl, by decide +kernel, by decide +kernel⟩
theorem cvX3_tickAt : Cond.instanceMethod yX3_tickAt ∈ WT ∧ Cond.selects yX3_tickAt.cls yX3_tickAt yX3_tickAt ∈ WT ∧ vwCl[3]? = some (yX3_tickAt.cls, TX3, 4) := ⟨wt 339 (by decide +kernel) rfl, wt 340 (by decide +kernel) rfl, rfl⟩
theorem ceX2_goOn : jCe yX2_goOn mX2_goOn 3 := ⟨wt 7 (by decide +kernel) rfl, wt 363 (by decide +kernel) rfl, by decide +kernel, by decide +kernel⟩
theorem cvX2_goOn : Cond.instanceMethod yX2_goOn ∈ WT ∧ Cond.selects yX2_goOn.cls yX2_goOn yX2_goOn ∈ WT ∧ vwCl[2]? = some (yX2_goOn.cls, TX2, 8) := ⟨wt 362 (by decide +kernel) rfl, wt_p 5 (by decide +kernel : _ = some (_, 8)), rfl⟩
theorem ceX2_searchParallels : jCe yX2_searchParallels mX2_searchParallels 1 := ⟨wt 7 (by decide +kernel) rfl, wt 383 (by decide +kernel) rfl, by decide +kernel, by decide +kernel⟩
theorem cvX2_searchParallels : Cond.instanceMethod yX2_searchParallels ∈ WT ∧ Cond.selects yX2_searchParallels.cls yX2_searchParallels yX2_searchParallels ∈ WT ∧ vwCl[2]? = some (yX2_searchParallels.cls, TX2, 8) := ⟨wt 382 (by decide +kernel) rfl, wt_p 6 (by decide +kernel : _ = some (_, 8)), rfl⟩
theorem ceX2_searchCrossings : jCe yX2_searchCrossings mX2_searchCrossings 1 := ⟨wt 7 (by decide +kernel) rfl, wt 394 (by decide +kernel) rfl, by decide +kernel, by decide +kernel⟩
theorem cvX2_searchCrossings : Cond.instanceMethod yX2_searchCrossings ∈ WT ∧ Cond.selects yX2_searchCrossings.cls yX2_searchCrossings yX2_searchCrossings ∈ WT ∧ vwCl[2]? = some (yX2_searchCrossings.cls, TX2, 8) := ⟨wt 393 (by decide +kernel) rfl, wt_p 8 (by decide +kernel : _ = some (_, 8)), rfl⟩
theorem ceX2_searchNote : jCe yX2_searchNote mX2_searchNote 3 := ⟨wt 7 (by decide +kernel) rfl, wt 398 (by decide +kernel) rfl, by decide +kernel, by decide +kernel⟩
theorem cvX2_searchNote : Cond.instanceMethod yX2_searchNote ∈ WT ∧ Cond.selects yX2_searchNote.cls yX2_searchNote yX2_searchNote ∈ WT ∧ vwCl[2]? = some (yX2_searchNote.cls, TX2, 8) := ⟨wt 397 (by decide +kernel) rfl, wt_p 9 (by decide +kernel : _ = some (_, 8)), rfl⟩
theorem ceX6_isNote : jCe yX6_isNote mX6_isNote 1 := ⟨wt 2 (by decide +kernel) rfl, wt 375 (by decide +kernel) rfl, by decide +kernel, by decide +kernel⟩
theorem cvX6_isNote : Cond.instanceMethod yX6_isNote ∈ WT ∧ Cond.selects yX6_isNote.cls yX6_isNote yX6_isNote ∈ WT ∧ vwCl[6]? = some (yX6_isNote.cls, TX6, 13) := ⟨wt 373 (by decide +kernel) rfl, wt 374 (by decide +kernel) rfl, rfl⟩
theorem ceX6_beginAt : jCe yX6_beginAt mX6_beginAt 1 := ⟨wt 2 (by decide +kernel) rfl, wt 305 (by decide +kernel) rfl, by decide +kernel, by decide +kernel⟩
theorem cvX6_beginAt : Cond.instanceMethod yX6_beginAt ∈ WT ∧ Cond.selects yX6_beginAt.cls yX6_beginAt yX6_beginAt ∈ WT ∧ vwCl[6]? = some (yX6_beginAt.cls, TX6, 13) := ⟨wt 303 (by decide +kernel) rfl, wt 304 (by decide +kernel) rfl, rfl⟩
theorem ceJ6_compare_7cf53 : jCe yJ6_compare_7cf53 mJ6_compare_7cf53 2 := ⟨wt 19 (by decide +kernel) rfl, wt 379 (by decide +kernel) rfl, by decide +kernel, by decide +kernel⟩
theorem csJ6_compare_7cf53 : Cond.static yJ6_compare_7cf53 ∈ WT := wt 378 (by decide +kernel) rfl
theorem ceJ9_floorMod_7cf53 : jCe yJ9_floorMod_7cf53 mJ9_floorMod_7cf53 2 := ⟨wt 17 (by decide +kernel) rfl, wt 386 (by decide +kernel) rfl, by decide +kernel, by decide +kernel⟩
theorem csJ9_floorMod_7cf53 : Cond.static yJ9_floorMod_7cf53 ∈ WT := wt 385 (by decide +kernel) rfl
theorem ceX2_add : jCe yX2_add mX2_add 3 := ⟨wt 7 (by decide +kernel) rfl, wt 390 (by decide +kernel) rfl, by decide +kernel, by decide +kernel⟩
theorem cvX2_add : Cond.instanceMethod yX2_add ∈ WT ∧ Cond.selects yX2_add.cls yX2_add yX2_add ∈ WT ∧ vwCl[2]? = some (yX2_add.cls, TX2, 8) := ⟨wt 389 (by decide +kernel) rfl, wt_p 7 (by decide +kernel : _ = some (_, 8)), rfl⟩
theorem ceJ9_abs_0f7a4 : jCe yJ9_abs_0f7a4 mJ9_abs_0f7a4 1 := ⟨wt 17 (by decide +kernel) rfl, wt 333 (by decide +kernel) rfl, by decide +kernel, by decide +kernel⟩
theorem csJ9_abs_0f7a4 : Cond.static yJ9_abs_0f7a4 ∈ WT := wt 332 (by decide +kernel) rfl
theorem ceX6_isOutOfRange : jCe yX6_isOutOfRange mX6_isOutOfRange 1 := ⟨wt 2 (by decide +kernel) rfl, wt 403 (by decide +kernel) rfl, by decide +kernel, by decide +kernel⟩
theorem cvX6_isOutOfRange : Cond.instanceMethod yX6_isOutOfRange ∈ WT ∧ Cond.selects yX6_isOutOfRange.cls yX6_isOutOfRange yX6_isOutOfRange ∈ WT ∧ vwCl[6]? = some (yX6_isOutOfRange.cls, TX6, 13) := ⟨wt 401 (by decide +kernel) rfl, wt 402 (by decide +kernel) rfl, rfl⟩
theorem ceX3_has : jCe yX3_has mX3_has 1 := ⟨wt 5 (by decide +kernel) rfl, wt 345 (by decide +kernel) rfl, by decide +kernel, by decide +kernel⟩
theorem cvX3_has : Cond.instanceMethod yX3_has ∈ WT ∧ Cond.selects yX3_has.cls yX3_has yX3_has ∈ WT ∧ vwCl[3]? = some (yX3_has.cls, TX3, 4) := ⟨wt 343 (by decide +kernel) rfl, wt 344 (by decide +kernel) rfl, rfl⟩
theorem ceX3_nextBegin : jCe yX3_nextBegin mX3_nextBegin 1 := ⟨wt 5 (by decide +kernel) rfl, wt 297 (by decide +kernel) rfl, by decide +kernel, by decide +kernel⟩
theorem cvX3_nextBegin : Cond.instanceMethod yX3_nextBegin ∈ WT ∧ Cond.selects yX3_nextBegin.cls yX3_nextBegin yX3_nextBegin ∈ WT ∧ vwCl[3]? = some (yX3_nextBegin.cls, TX3, 4) := ⟨wt 296 (by decide +kernel) rfl, wt_p 2 (by decide +kernel : _ = some (_, 4)), rfl⟩
theorem ceX3_eventGoingOn : jCe yX3_eventGoingOn mX3_eventGoingOn 3 := ⟨wt 5 (by decide +kernel) rfl, wt 313 (by decide +kernel) rfl, by decide +kernel, by decide +kernel⟩
theorem cvX3_eventGoingOn : Cond.instanceMethod yX3_eventGoingOn ∈ WT ∧ Cond.selects yX3_eventGoingOn.cls yX3_eventGoingOn yX3_eventGoingOn ∈ WT ∧ vwCl[3]? = some (yX3_eventGoingOn.cls, TX3, 4) := ⟨wt 312 (by decide +kernel) rfl, wt_p 3 (by decide +kernel : _ = some (_, 4)), rfl⟩
theorem ceX6_has : jCe yX6_has mX6_has 1 := ⟨wt 2 (by decide +kernel) rfl, wt 301 (by decide +kernel) rfl, by decide +kernel, by decide +kernel⟩
theorem cvX6_has : Cond.instanceMethod yX6_has ∈ WT ∧ Cond.selects yX6_has.cls yX6_has yX6_has ∈ WT ∧ vwCl[6]? = some (yX6_has.cls, TX6, 13) := ⟨wt 299 (by decide +kernel) rfl, wt 300 (by decide +kernel) rfl, rfl⟩
theorem ceX6_endAt : jCe yX6_endAt mX6_endAt 1 := ⟨wt 2 (by decide +kernel) rfl, wt 317 (by decide +kernel) rfl, by decide +kernel, by decide +kernel⟩
theorem cvX6_endAt : Cond.instanceMethod yX6_endAt ∈ WT ∧ Cond.selects yX6_endAt.cls yX6_endAt yX6_endAt ∈ WT ∧ vwCl[6]? = some (yX6_endAt.cls, TX6, 13) := ⟨wt 315 (by decide +kernel) rfl, wt 316 (by decide +kernel) rfl, rfl⟩
theorem ceX0_keyAt : jCe yX0_keyAt mX0_keyAt 1 := ⟨wt 3 (by decide +kernel) rfl, wt 330 (by decide +kernel) rfl, by decide +kernel, by decide +kernel⟩
theorem cvX0_keyAt : Cond.instanceMethod yX0_keyAt ∈ WT ∧ Cond.selects yX0_keyAt.cls yX0_keyAt yX0_keyAt ∈ WT ∧ vwCl[0]? = some (yX0_keyAt.cls, TX0, 5) := ⟨wt 328 (by decide +kernel) rfl, wt 329 (by decide +kernel) rfl, rfl⟩
theorem ceX4_widthOfGap : jCe yX4_widthOfGap mX4_widthOfGap 1 := ⟨wt 8 (by decide +kernel) rfl, wt 348 (by decide +kernel) rfl, by decide +kernel, by decide +kernel⟩
theorem csX4_widthOfGap : Cond.static yX4_widthOfGap ∈ WT := wt 347 (by decide +kernel) rfl
theorem ceX4_chooseLine : jCe yX4_chooseLine mX4_chooseLine 3 := ⟨wt 8 (by decide +kernel) rfl, wt 766 (by decide +kernel) rfl, by decide +kernel, by decide +kernel⟩
theorem cvX4_chooseLine : Cond.instanceMethod yX4_chooseLine ∈ WT ∧ Cond.selects yX4_chooseLine.cls yX4_chooseLine yX4_chooseLine ∈ WT ∧ vwCl[4]? = some (yX4_chooseLine.cls, TX4, 5) := ⟨wt 765 (by decide +kernel) rfl, wt_p 33 (by decide +kernel : _ = some (_, 5)), rfl⟩
theorem ceX4_numberLines : jCe yX4_numberLines mX4_numberLines 1 := ⟨wt 8 (by decide +kernel) rfl, wt 770 (by decide +kernel) rfl, by decide +kernel, by decide +kernel⟩
theorem cvX4_numberLines : Cond.instanceMethod yX4_numberLines ∈ WT ∧ Cond.selects yX4_numberLines.cls yX4_numberLines yX4_numberLines ∈ WT ∧ vwCl[4]? = some (yX4_numberLines.cls, TX4, 5) := ⟨wt 769 (by decide +kernel) rfl, wt_p 34 (by decide +kernel : _ = some (_, 5)), rfl⟩
theorem ceX5_has : jCe yX5_has mX5_has 1 := ⟨wt 4 (by decide +kernel) rfl, wt 576 (by decide +kernel) rfl, by decide +kernel, by decide +kernel⟩
theorem cvX5_has : Cond.instanceMethod yX5_has ∈ WT ∧ Cond.selects yX5_has.cls yX5_has yX5_has ∈ WT ∧ vwCl[5]? = some (yX5_has.cls, TX5, 11) := ⟨wt 574 (by decide +kernel) rfl, wt 575 (by decide +kernel) rfl, rfl⟩
theorem ceX6_firstEndingBehind : jCe yX6_firstEndingBehind mX6_firstEndingBehind 1 := ⟨wt 2 (by decide +kernel) rfl, wt 530 (by decide +kernel) rfl, by decide +kernel, by decide +kernel⟩
theorem cvX6_firstEndingBehind : Cond.instanceMethod yX6_firstEndingBehind ∈ WT ∧ Cond.selects yX6_firstEndingBehind.cls yX6_firstEndingBehind yX6_firstEndingBehind ∈ WT ∧ vwCl[6]? = some (yX6_firstEndingBehind.cls, TX6, 13) := ⟨wt 528 (by decide +kernel) rfl, wt 529 (by decide +kernel) rfl, rfl⟩
theorem ceX6_size : jCe yX6_size mX6_size 0 := ⟨wt 2 (by decide +kernel) rfl, wt 412 (by decide +kernel) rfl, by decide +kernel, by decide +kernel⟩
theorem cvX6_size : Cond.instanceMethod yX6_size ∈ WT ∧ Cond.selects yX6_size.cls yX6_size yX6_size ∈ WT ∧ vwCl[6]? = some (yX6_size.cls, TX6, 13) := ⟨wt 410 (by decide +kernel) rfl, wt 411 (by decide +kernel) rfl, rfl⟩
theorem ceX5_writeStretch : jCe yX5_writeStretch mX5_writeStretch 3 := ⟨wt 4 (by decide +kernel) rfl, wt 542 (by decide +kernel) rfl, by decide +kernel, by decide +kernel⟩
theorem cvX5_writeStretch : Cond.instanceMethod yX5_writeStretch ∈ WT ∧ Cond.selects yX5_writeStretch.cls yX5_writeStretch yX5_writeStretch ∈ WT ∧ vwCl[5]? = some (yX5_writeStretch.cls, TX5, 11) := ⟨wt 541 (by decide +kernel) rfl, wt_p 15 (by decide +kernel : _ = some (_, 11)), rfl⟩
theorem ceX0_end : jCe yX0_end mX0_end 0 := ⟨wt 3 (by decide +kernel) rfl, wt 555 (by decide +kernel) rfl, by decide +kernel, by decide +kernel⟩
theorem cvX0_end : Cond.instanceMethod yX0_end ∈ WT ∧ Cond.selects yX0_end.cls yX0_end yX0_end ∈ WT ∧ vwCl[0]? = some (yX0_end.cls, TX0, 5) := ⟨wt 553 (by decide +kernel) rfl, wt 554 (by decide +kernel) rfl, rfl⟩
theorem ceX5_markSigns : jCe yX5_markSigns mX5_markSigns 2 := ⟨wt 4 (by decide +kernel) rfl, wt 559 (by decide +kernel) rfl, by decide +kernel, by decide +kernel⟩
theorem cvX5_markSigns : Cond.instanceMethod yX5_markSigns ∈ WT ∧ Cond.selects yX5_markSigns.cls yX5_markSigns yX5_markSigns ∈ WT ∧ vwCl[5]? = some (yX5_markSigns.cls, TX5, 11) := ⟨wt 558 (by decide +kernel) rfl, wt_p 17 (by decide +kernel : _ = some (_, 11)), rfl⟩
theorem ceX0_groupLengthAt : jCe yX0_groupLengthAt mX0_groupLengthAt 1 := ⟨wt 3 (by decide +kernel) rfl, wt 564 (by decide +kernel) rfl, by decide +kernel, by decide +kernel⟩
theorem cvX0_groupLengthAt : Cond.instanceMethod yX0_groupLengthAt ∈ WT ∧ Cond.selects yX0_groupLengthAt.cls yX0_groupLengthAt yX0_groupLengthAt ∈ WT ∧ vwCl[0]? = some (yX0_groupLengthAt.cls, TX0, 5) := ⟨wt 562 (by decide +kernel) rfl, wt 563 (by decide +kernel) rfl, rfl⟩
theorem ceX5_beamSigns : jCe yX5_beamSigns mX5_beamSigns 3 := ⟨wt 4 (by decide +kernel) rfl, wt 568 (by decide +kernel) rfl, by decide +kernel, by decide +kernel⟩
theorem cvX5_beamSigns : Cond.instanceMethod yX5_beamSigns ∈ WT ∧ Cond.selects yX5_beamSigns.cls yX5_beamSigns yX5_beamSigns ∈ WT ∧ vwCl[5]? = some (yX5_beamSigns.cls, TX5, 11) := ⟨wt 567 (by decide +kernel) rfl, wt_p 18 (by decide +kernel : _ = some (_, 11)), rfl⟩
theorem ceX5_showAlters : jCe yX5_showAlters mX5_showAlters 2 := ⟨wt 4 (by decide +kernel) rfl, wt 581 (by decide +kernel) rfl, by decide +kernel, by decide +kernel⟩
theorem cvX5_showAlters : Cond.instanceMethod yX5_showAlters ∈ WT ∧ Cond.selects yX5_showAlters.cls yX5_showAlters yX5_showAlters ∈ WT ∧ vwCl[5]? = some (yX5_showAlters.cls, TX5, 11) := ⟨wt 580 (by decide +kernel) rfl, wt_p 20 (by decide +kernel : _ = some (_, 11)), rfl⟩
theorem ceX6_keyAsWritten : jCe yX6_keyAsWritten mX6_keyAsWritten 1 := ⟨wt 2 (by decide +kernel) rfl, wt 603 (by decide +kernel) rfl, by decide +kernel, by decide +kernel⟩
theorem cvX6_keyAsWritten : Cond.instanceMethod yX6_keyAsWritten ∈ WT ∧ Cond.selects yX6_keyAsWritten.cls yX6_keyAsWritten yX6_keyAsWritten ∈ WT ∧ vwCl[6]? = some (yX6_keyAsWritten.cls, TX6, 13) := ⟨wt 601 (by decide +kernel) rfl, wt 602 (by decide +kernel) rfl, rfl⟩
theorem ceX5_showAltersAsWritten : jCe yX5_showAltersAsWritten mX5_showAltersAsWritten 2 := ⟨wt 4 (by decide +kernel) rfl, wt 607 (by decide +kernel) rfl, by decide +kernel, by decide +kernel⟩
theorem cvX5_showAltersAsWritten : Cond.instanceMethod yX5_showAltersAsWritten ∈ WT ∧ Cond.selects yX5_showAltersAsWritten.cls yX5_showAltersAsWritten yX5_showAltersAsWritten ∈ WT ∧ vwCl[5]? = some (yX5_showAltersAsWritten.cls, TX5, 11) := ⟨wt 606 (by decide +kernel) rfl, wt_p 22 (by decide +kernel : _ = some (_, 11)), rfl⟩
theorem ceX8_greatestIn : jCe yX8_greatestIn mX8_greatestIn 1 := ⟨wt 13 (by decide +kernel) rfl, wt 545 (by decide +kernel) rfl, by decide +kernel, by decide +kernel⟩
theorem csX8_greatestIn : Cond.static yX8_greatestIn ∈ WT := wt 544 (by decide +kernel) rfl
theorem ceX5_addSign : jCe yX5_addSign mX5_addSign 3 := ⟨wt 4 (by decide +kernel) rfl, wt 551 (by decide +kernel) rfl, by decide +kernel, by decide +kernel⟩
theorem cvX5_addSign : Cond.instanceMethod yX5_addSign ∈ WT ∧ Cond.selects yX5_addSign.cls yX5_addSign yX5_addSign ∈ WT ∧ vwCl[5]? = some (yX5_addSign.cls, TX5, 11) := ⟨wt 550 (by decide +kernel) rfl, wt_p 16 (by decide +kernel : _ = some (_, 11)), rfl⟩
theorem ceX5_joinToSignAhead : jCe yX5_joinToSignAhead mX5_joinToSignAhead 1 := ⟨wt 4 (by decide +kernel) rfl, wt 572 (by decide +kernel) rfl, by decide +kernel, by decide +kernel⟩
theorem cvX5_joinToSignAhead : Cond.instanceMethod yX5_joinToSignAhead ∈ WT ∧ Cond.selects yX5_joinToSignAhead.cls yX5_joinToSignAhead yX5_joinToSignAhead ∈ WT ∧ vwCl[5]? = some (yX5_joinToSignAhead.cls, TX5, 11) := ⟨wt 571 (by decide +kernel) rfl, wt_p 19 (by decide +kernel : _ = some (_, 11)), rfl⟩
theorem ceX6_placeAt : jCe yX6_placeAt mX6_placeAt 1 := ⟨wt 2 (by decide +kernel) rfl, wt 586 (by decide +kernel) rfl, by decide +kernel, by decide +kernel⟩
theorem cvX6_placeAt : Cond.instanceMethod yX6_placeAt ∈ WT ∧ Cond.selects yX6_placeAt.cls yX6_placeAt yX6_placeAt ∈ WT ∧ vwCl[6]? = some (yX6_placeAt.cls, TX6, 13) := ⟨wt 584 (by decide +kernel) rfl, wt 585 (by decide +kernel) rfl, rfl⟩
theorem ceX6_alterAt : jCe yX6_alterAt mX6_alterAt 1 := ⟨wt 2 (by decide +kernel) rfl, wt 590 (by decide +kernel) rfl, by decide +kernel, by decide +kernel⟩
theorem cvX6_alterAt : Cond.instanceMethod yX6_alterAt ∈ WT ∧ Cond.selects yX6_alterAt.cls yX6_alterAt yX6_alterAt ∈ WT ∧ vwCl[6]? = some (yX6_alterAt.cls, TX6, 13) := ⟨wt 588 (by decide +kernel) rfl, wt 589 (by decide +kernel) rfl, rfl⟩
theorem ceX5_alterToShow : jCe yX5_alterToShow mX5_alterToShow 3 := ⟨wt 4 (by decide +kernel) rfl, wt 594 (by decide +kernel) rfl, by decide +kernel, by decide +kernel⟩
theorem cvX5_alterToShow : Cond.instanceMethod yX5_alterToShow ∈ WT ∧ Cond.selects yX5_alterToShow.cls yX5_alterToShow yX5_alterToShow ∈ WT ∧ vwCl[5]? = some (yX5_alterToShow.cls, TX5, 11) := ⟨wt 593 (by decide +kernel) rfl, wt_p 21 (by decide +kernel : _ = some (_, 11)), rfl⟩
theorem ceX6_writtenPlaceAt : jCe yX6_writtenPlaceAt mX6_writtenPlaceAt 1 := ⟨wt 2 (by decide +kernel) rfl, wt 426 (by decide +kernel) rfl, by decide +kernel, by decide +kernel⟩
theorem cvX6_writtenPlaceAt : Cond.instanceMethod yX6_writtenPlaceAt ∈ WT ∧ Cond.selects yX6_writtenPlaceAt.cls yX6_writtenPlaceAt yX6_writtenPlaceAt ∈ WT ∧ vwCl[6]? = some (yX6_writtenPlaceAt.cls, TX6, 13) := ⟨wt 424 (by decide +kernel) rfl, wt 425 (by decide +kernel) rfl, rfl⟩
theorem ceX6_writtenAlterAt : jCe yX6_writtenAlterAt mX6_writtenAlterAt 1 := ⟨wt 2 (by decide +kernel) rfl, wt 430 (by decide +kernel) rfl, by decide +kernel, by decide +kernel⟩
theorem cvX6_writtenAlterAt : Cond.instanceMethod yX6_writtenAlterAt ∈ WT ∧ Cond.selects yX6_writtenAlterAt.cls yX6_writtenAlterAt yX6_writtenAlterAt ∈ WT ∧ vwCl[6]? = some (yX6_writtenAlterAt.cls, TX6, 13) := ⟨wt 428 (by decide +kernel) rfl, wt 429 (by decide +kernel) rfl, rfl⟩
theorem ceX7_alterByKey : jCe yX7_alterByKey mX7_alterByKey 2 := ⟨wt 16 (by decide +kernel) rfl, wt 597 (by decide +kernel) rfl, by decide +kernel, by decide +kernel⟩
theorem csX7_alterByKey : Cond.static yX7_alterByKey ∈ WT := wt 596 (by decide +kernel) rfl
theorem ceX6_givePitch : jCe yX6_givePitch mX6_givePitch 3 := ⟨wt 2 (by decide +kernel) rfl, wt 854 (by decide +kernel) rfl, by decide +kernel, by decide +kernel⟩
theorem cvX6_givePitch : Cond.instanceMethod yX6_givePitch ∈ WT ∧ Cond.selects yX6_givePitch.cls yX6_givePitch yX6_givePitch ∈ WT ∧ vwCl[6]? = some (yX6_givePitch.cls, TX6, 13) := ⟨wt 852 (by decide +kernel) rfl, wt 853 (by decide +kernel) rfl, rfl⟩
theorem ceX7_plainHeight : jCe yX7_plainHeight mX7_plainHeight 1 := ⟨wt 16 (by decide +kernel) rfl, wt 857 (by decide +kernel) rfl, by decide +kernel, by decide +kernel⟩
theorem csX7_plainHeight : Cond.static yX7_plainHeight ∈ WT := wt 856 (by decide +kernel) rfl
theorem ceX6_writeForInstrument : jCe yX6_writeForInstrument mX6_writeForInstrument 1 := ⟨wt 2 (by decide +kernel) rfl, wt 867 (by decide +kernel) rfl, by decide +kernel, by decide +kernel⟩
theorem cvX6_writeForInstrument : Cond.instanceMethod yX6_writeForInstrument ∈ WT ∧ Cond.selects yX6_writeForInstrument.cls yX6_writeForInstrument yX6_writeForInstrument ∈ WT ∧ vwCl[6]? = some (yX6_writeForInstrument.cls, TX6, 13) := ⟨wt 866 (by decide +kernel) rfl, wt_p 38 (by decide +kernel : _ = some (_, 13)), rfl⟩
theorem ceX7_isPitch : jCe yX7_isPitch mX7_isPitch 2 := ⟨wt 16 (by decide +kernel) rfl, wt 870 (by decide +kernel) rfl, by decide +kernel, by decide +kernel⟩
theorem csX7_isPitch : Cond.static yX7_isPitch ∈ WT := wt 869 (by decide +kernel) rfl
theorem ceJ9_floorDiv_7cf53 : jCe yJ9_floorDiv_7cf53 mJ9_floorDiv_7cf53 2 := ⟨wt 17 (by decide +kernel) rfl, wt 863 (by decide +kernel) rfl, by decide +kernel, by decide +kernel⟩
theorem csJ9_floorDiv_7cf53 : Cond.static yJ9_floorDiv_7cf53 ∈ WT := wt 862 (by decide +kernel) rfl
theorem ceX6_init : jCe yX6_init mX6_init 0 := ⟨wt 2 (by decide +kernel) rfl, wt 33 (by decide +kernel) rfl, by decide +kernel, by decide +kernel⟩
theorem ciX6_init : Cond.instanceMethod yX6_init ∈ WT ∧ yX6_init.name = "<init>" := ⟨wt 32 (by decide +kernel) rfl, rfl⟩
theorem ceX0_init : jCe yX0_init mX0_init 0 := ⟨wt 3 (by decide +kernel) rfl, wt 80 (by decide +kernel) rfl, by decide +kernel, by decide +kernel⟩
theorem ciX0_init : Cond.instanceMethod yX0_init ∈ WT ∧ yX0_init.name = "<init>" := ⟨wt 79 (by decide +kernel) rfl, rfl⟩
theorem ceX5_init : jCe yX5_init mX5_init 0 := ⟨wt 4 (by decide +kernel) rfl, wt 113 (by decide +kernel) rfl, by decide +kernel, by decide +kernel⟩
theorem ciX5_init : Cond.instanceMethod yX5_init ∈ WT ∧ yX5_init.name = "<init>" := ⟨wt 112 (by decide +kernel) rfl, rfl⟩
theorem ceX3_init : jCe yX3_init mX3_init 0 := ⟨wt 5 (by decide +kernel) rfl, wt 154 (by decide +kernel) rfl, by decide +kernel, by decide +kernel⟩
theorem ciX3_init : Cond.instanceMethod yX3_init ∈ WT ∧ yX3_init.name = "<init>" := ⟨wt 153 (by decide +kernel) rfl, rfl⟩
theorem ceX1_init : jCe yX1_init mX1_init 0 := ⟨wt 6 (by decide +kernel) rfl, wt 173 (by decide +kernel) rfl, by decide +kernel, by decide +kernel⟩
theorem ciX1_init : Cond.instanceMethod yX1_init ∈ WT ∧ yX1_init.name = "<init>" := ⟨wt 172 (by decide +kernel) rfl, rfl⟩
theorem ceX2_init : jCe yX2_init mX2_init 0 := ⟨wt 7 (by decide +kernel) rfl, wt 189 (by decide +kernel) rfl, by decide +kernel, by decide +kernel⟩
theorem ciX2_init : Cond.instanceMethod yX2_init ∈ WT ∧ yX2_init.name = "<init>" := ⟨wt 188 (by decide +kernel) rfl, rfl⟩
theorem ceX4_init : jCe yX4_init mX4_init 0 := ⟨wt 8 (by decide +kernel) rfl, wt 220 (by decide +kernel) rfl, by decide +kernel, by decide +kernel⟩
theorem ciX4_init : Cond.instanceMethod yX4_init ∈ WT ∧ yX4_init.name = "<init>" := ⟨wt 219 (by decide +kernel) rfl, rfl⟩
theorem ceX9_partAt : jCe yX9_partAt mX9_partAt 1 := ⟨wt 1 (by decide +kernel) rfl, wt 448 (by decide +kernel) rfl, by decide +kernel, by decide +kernel⟩
theorem cvX9_partAt : Cond.instanceMethod yX9_partAt ∈ WT ∧ Cond.selects yX9_partAt.cls yX9_partAt yX9_partAt ∈ WT ∧ vwCl[7]? = some (yX9_partAt.cls, TX9, 12) := ⟨wt 447 (by decide +kernel) rfl, wt_p 13 (by decide +kernel : _ = some (_, 12)), rfl⟩
theorem ceX9_checkPitch : jCe yX9_checkPitch mX9_checkPitch 2 := ⟨wt 1 (by decide +kernel) rfl, wt 943 (by decide +kernel) rfl, by decide +kernel, by decide +kernel⟩
theorem csX9_checkPitch : Cond.static yX9_checkPitch ∈ WT := wt 942 (by decide +kernel) rfl
theorem ceX9_checkValue : jCe yX9_checkValue mX9_checkValue 1 := ⟨wt 1 (by decide +kernel) rfl, wt 798 (by decide +kernel) rfl, by decide +kernel, by decide +kernel⟩
theorem csX9_checkValue : Cond.static yX9_checkValue ∈ WT := wt 797 (by decide +kernel) rfl
theorem ceX9_checkRoom : jCe yX9_checkRoom mX9_checkRoom 2 := ⟨wt 1 (by decide +kernel) rfl, wt 821 (by decide +kernel) rfl, by decide +kernel, by decide +kernel⟩
theorem cvX9_checkRoom : Cond.instanceMethod yX9_checkRoom ∈ WT ∧ Cond.selects yX9_checkRoom.cls yX9_checkRoom yX9_checkRoom ∈ WT ∧ vwCl[7]? = some (yX9_checkRoom.cls, TX9, 12) := ⟨wt 820 (by decide +kernel) rfl, wt_p 35 (by decide +kernel : _ = some (_, 12)), rfl⟩
theorem ceX9_forgetWhatFollows : jCe yX9_forgetWhatFollows mX9_forgetWhatFollows 0 := ⟨wt 1 (by decide +kernel) rfl, wt 846 (by decide +kernel) rfl, by decide +kernel, by decide +kernel⟩
theorem cvX9_forgetWhatFollows : Cond.instanceMethod yX9_forgetWhatFollows ∈ WT ∧ Cond.selects yX9_forgetWhatFollows.cls yX9_forgetWhatFollows yX9_forgetWhatFollows ∈ WT ∧ vwCl[7]? = some (yX9_forgetWhatFollows.cls, TX9, 12) := ⟨wt 845 (by decide +kernel) rfl, wt_p 37 (by decide +kernel : _ = some (_, 12)), rfl⟩
theorem ceX6_append : jCe yX6_append mX6_append 3 := ⟨wt 2 (by decide +kernel) rfl, wt 850 (by decide +kernel) rfl, by decide +kernel, by decide +kernel⟩
theorem cvX6_append : Cond.instanceMethod yX6_append ∈ WT ∧ Cond.selects yX6_append.cls yX6_append yX6_append ∈ WT ∧ vwCl[6]? = some (yX6_append.cls, TX6, 13) := ⟨wt 848 (by decide +kernel) rfl, wt 849 (by decide +kernel) rfl, rfl⟩
theorem ceX6_removeLast : jCe yX6_removeLast mX6_removeLast 0 := ⟨wt 2 (by decide +kernel) rfl, wt 879 (by decide +kernel) rfl, by decide +kernel, by decide +kernel⟩
theorem cvX6_removeLast : Cond.instanceMethod yX6_removeLast ∈ WT ∧ Cond.selects yX6_removeLast.cls yX6_removeLast yX6_removeLast ∈ WT ∧ vwCl[6]? = some (yX6_removeLast.cls, TX6, 13) := ⟨wt 877 (by decide +kernel) rfl, wt 878 (by decide +kernel) rfl, rfl⟩
theorem ceX9_partWith : jCe yX9_partWith mX9_partWith 2 := ⟨wt 1 (by decide +kernel) rfl, wt 938 (by decide +kernel) rfl, by decide +kernel, by decide +kernel⟩
theorem cvX9_partWith : Cond.instanceMethod yX9_partWith ∈ WT ∧ Cond.selects yX9_partWith.cls yX9_partWith yX9_partWith ∈ WT ∧ vwCl[7]? = some (yX9_partWith.cls, TX9, 12) := ⟨wt 937 (by decide +kernel) rfl, wt_p 39 (by decide +kernel : _ = some (_, 12)), rfl⟩
theorem ceX9_checkNote : jCe yX9_checkNote mX9_checkNote 2 := ⟨wt 1 (by decide +kernel) rfl, wt 948 (by decide +kernel) rfl, by decide +kernel, by decide +kernel⟩
theorem csX9_checkNote : Cond.static yX9_checkNote ∈ WT := wt 947 (by decide +kernel) rfl
theorem ceX9_checkBar : jCe yX9_checkBar mX9_checkBar 1 := ⟨wt 1 (by decide +kernel) rfl, wt 519 (by decide +kernel) rfl, by decide +kernel, by decide +kernel⟩
theorem csX9_checkBar : Cond.static yX9_checkBar ∈ WT := wt 518 (by decide +kernel) rfl
theorem ceX9_checkKey : jCe yX9_checkKey mX9_checkKey 1 := ⟨wt 1 (by decide +kernel) rfl, wt 892 (by decide +kernel) rfl, by decide +kernel, by decide +kernel⟩
theorem csX9_checkKey : Cond.static yX9_checkKey ∈ WT := wt 891 (by decide +kernel) rfl
theorem ceX0_changeKey : jCe yX0_changeKey mX0_changeKey 2 := ⟨wt 3 (by decide +kernel) rfl, wt 897 (by decide +kernel) rfl, by decide +kernel, by decide +kernel⟩
theorem cvX0_changeKey : Cond.instanceMethod yX0_changeKey ∈ WT ∧ Cond.selects yX0_changeKey.cls yX0_changeKey yX0_changeKey ∈ WT ∧ vwCl[0]? = some (yX0_changeKey.cls, TX0, 5) := ⟨wt 895 (by decide +kernel) rfl, wt 896 (by decide +kernel) rfl, rfl⟩
theorem ceX6_changeRange : jCe yX6_changeRange mX6_changeRange 2 := ⟨wt 2 (by decide +kernel) rfl, wt 920 (by decide +kernel) rfl, by decide +kernel, by decide +kernel⟩
theorem cvX6_changeRange : Cond.instanceMethod yX6_changeRange ∈ WT ∧ Cond.selects yX6_changeRange.cls yX6_changeRange yX6_changeRange ∈ WT ∧ vwCl[6]? = some (yX6_changeRange.cls, TX6, 13) := ⟨wt 918 (by decide +kernel) rfl, wt 919 (by decide +kernel) rfl, rfl⟩
theorem ceX6_notesOutOfRange : jCe yX6_notesOutOfRange mX6_notesOutOfRange 0 := ⟨wt 2 (by decide +kernel) rfl, wt 924 (by decide +kernel) rfl, by decide +kernel, by decide +kernel⟩
theorem cvX6_notesOutOfRange : Cond.instanceMethod yX6_notesOutOfRange ∈ WT ∧ Cond.selects yX6_notesOutOfRange.cls yX6_notesOutOfRange yX6_notesOutOfRange ∈ WT ∧ vwCl[6]? = some (yX6_notesOutOfRange.cls, TX6, 13) := ⟨wt 922 (by decide +kernel) rfl, wt 923 (by decide +kernel) rfl, rfl⟩
theorem ceX6_changeShift : jCe yX6_changeShift mX6_changeShift 2 := ⟨wt 2 (by decide +kernel) rfl, wt 906 (by decide +kernel) rfl, by decide +kernel, by decide +kernel⟩
theorem cvX6_changeShift : Cond.instanceMethod yX6_changeShift ∈ WT ∧ Cond.selects yX6_changeShift.cls yX6_changeShift yX6_changeShift ∈ WT ∧ vwCl[6]? = some (yX6_changeShift.cls, TX6, 13) := ⟨wt 904 (by decide +kernel) rfl, wt 905 (by decide +kernel) rfl, rfl⟩
theorem ceX6_notesWithoutWrittenPitch : jCe yX6_notesWithoutWrittenPitch mX6_notesWithoutWrittenPitch 0 := ⟨wt 2 (by decide +kernel) rfl, wt 910 (by decide +kernel) rfl, by decide +kernel, by decide +kernel⟩
theorem cvX6_notesWithoutWrittenPitch : Cond.instanceMethod yX6_notesWithoutWrittenPitch ∈ WT ∧ Cond.selects yX6_notesWithoutWrittenPitch.cls yX6_notesWithoutWrittenPitch yX6_notesWithoutWrittenPitch ∈ WT ∧ vwCl[6]? = some (yX6_notesWithoutWrittenPitch.cls, TX6, 13) := ⟨wt 908 (by decide +kernel) rfl, wt 909 (by decide +kernel) rfl, rfl⟩
theorem ceX9_measureAt : jCe yX9_measureAt mX9_measureAt 2 := ⟨wt 1 (by decide +kernel) rfl, wt 444 (by decide +kernel) rfl, by decide +kernel, by decide +kernel⟩
theorem cvX9_measureAt : Cond.instanceMethod yX9_measureAt ∈ WT ∧ Cond.selects yX9_measureAt.cls yX9_measureAt yX9_measureAt ∈ WT ∧ vwCl[7]? = some (yX9_measureAt.cls, TX9, 12) := ⟨wt 443 (by decide +kernel) rfl, wt_p 12 (by decide +kernel : _ = some (_, 12)), rfl⟩
theorem ceX5_size : jCe yX5_size mX5_size 0 := ⟨wt 4 (by decide +kernel) rfl, wt 613 (by decide +kernel) rfl, by decide +kernel, by decide +kernel⟩
theorem cvX5_size : Cond.instanceMethod yX5_size ∈ WT ∧ Cond.selects yX5_size.cls yX5_size yX5_size ∈ WT ∧ vwCl[5]? = some (yX5_size.cls, TX5, 11) := ⟨wt 611 (by decide +kernel) rfl, wt 612 (by decide +kernel) rfl, rfl⟩
theorem ceX9_measureWith : jCe yX9_measureWith mX9_measureWith 3 := ⟨wt 1 (by decide +kernel) rfl, wt 974 (by decide +kernel) rfl, by decide +kernel, by decide +kernel⟩
theorem cvX9_measureWith : Cond.instanceMethod yX9_measureWith ∈ WT ∧ Cond.selects yX9_measureWith.cls yX9_measureWith yX9_measureWith ∈ WT ∧ vwCl[7]? = some (yX9_measureWith.cls, TX9, 12) := ⟨wt 973 (by decide +kernel) rfl, wt_p 40 (by decide +kernel : _ = some (_, 12)), rfl⟩
theorem ceX5_eventAt : jCe yX5_eventAt mX5_eventAt 1 := ⟨wt 4 (by decide +kernel) rfl, wt 638 (by decide +kernel) rfl, by decide +kernel, by decide +kernel⟩
theorem cvX5_eventAt : Cond.instanceMethod yX5_eventAt ∈ WT ∧ Cond.selects yX5_eventAt.cls yX5_eventAt yX5_eventAt ∈ WT ∧ vwCl[5]? = some (yX5_eventAt.cls, TX5, 11) := ⟨wt 636 (by decide +kernel) rfl, wt 637 (by decide +kernel) rfl, rfl⟩
theorem ceX5_lengthAt : jCe yX5_lengthAt mX5_lengthAt 1 := ⟨wt 4 (by decide +kernel) rfl, wt 642 (by decide +kernel) rfl, by decide +kernel, by decide +kernel⟩
theorem cvX5_lengthAt : Cond.instanceMethod yX5_lengthAt ∈ WT ∧ Cond.selects yX5_lengthAt.cls yX5_lengthAt yX5_lengthAt ∈ WT ∧ vwCl[5]? = some (yX5_lengthAt.cls, TX5, 11) := ⟨wt 640 (by decide +kernel) rfl, wt 641 (by decide +kernel) rfl, rfl⟩
theorem ceX5_tiedAt : jCe yX5_tiedAt mX5_tiedAt 1 := ⟨wt 4 (by decide +kernel) rfl, wt 646 (by decide +kernel) rfl, by decide +kernel, by decide +kernel⟩
theorem cvX5_tiedAt : Cond.instanceMethod yX5_tiedAt ∈ WT ∧ Cond.selects yX5_tiedAt.cls yX5_tiedAt yX5_tiedAt ∈ WT ∧ vwCl[5]? = some (yX5_tiedAt.cls, TX5, 11) := ⟨wt 644 (by decide +kernel) rfl, wt 645 (by decide +kernel) rfl, rfl⟩
theorem ceX5_shownAt : jCe yX5_shownAt mX5_shownAt 1 := ⟨wt 4 (by decide +kernel) rfl, wt 650 (by decide +kernel) rfl, by decide +kernel, by decide +kernel⟩
theorem cvX5_shownAt : Cond.instanceMethod yX5_shownAt ∈ WT ∧ Cond.selects yX5_shownAt.cls yX5_shownAt yX5_shownAt ∈ WT ∧ vwCl[5]? = some (yX5_shownAt.cls, TX5, 11) := ⟨wt 648 (by decide +kernel) rfl, wt 649 (by decide +kernel) rfl, rfl⟩
theorem ceX5_shownAsWrittenAt : jCe yX5_shownAsWrittenAt mX5_shownAsWrittenAt 1 := ⟨wt 4 (by decide +kernel) rfl, wt 654 (by decide +kernel) rfl, by decide +kernel, by decide +kernel⟩
theorem cvX5_shownAsWrittenAt : Cond.instanceMethod yX5_shownAsWrittenAt ∈ WT ∧ Cond.selects yX5_shownAsWrittenAt.cls yX5_shownAsWrittenAt yX5_shownAsWrittenAt ∈ WT ∧ vwCl[5]? = some (yX5_shownAsWrittenAt.cls, TX5, 11) := ⟨wt 652 (by decide +kernel) rfl, wt 653 (by decide +kernel) rfl, rfl⟩
theorem ceX5_beamTotal : jCe yX5_beamTotal mX5_beamTotal 0 := ⟨wt 4 (by decide +kernel) rfl, wt 617 (by decide +kernel) rfl, by decide +kernel, by decide +kernel⟩
theorem cvX5_beamTotal : Cond.instanceMethod yX5_beamTotal ∈ WT ∧ Cond.selects yX5_beamTotal.cls yX5_beamTotal yX5_beamTotal ∈ WT ∧ vwCl[5]? = some (yX5_beamTotal.cls, TX5, 11) := ⟨wt 615 (by decide +kernel) rfl, wt 616 (by decide +kernel) rfl, rfl⟩
theorem ceX5_beamAt : jCe yX5_beamAt mX5_beamAt 1 := ⟨wt 4 (by decide +kernel) rfl, wt 658 (by decide +kernel) rfl, by decide +kernel, by decide +kernel⟩
theorem cvX5_beamAt : Cond.instanceMethod yX5_beamAt ∈ WT ∧ Cond.selects yX5_beamAt.cls yX5_beamAt yX5_beamAt ∈ WT ∧ vwCl[5]? = some (yX5_beamAt.cls, TX5, 11) := ⟨wt 656 (by decide +kernel) rfl, wt 657 (by decide +kernel) rfl, rfl⟩
theorem ceX6_end : jCe yX6_end mX6_end 0 := ⟨wt 2 (by decide +kernel) rfl, wt 621 (by decide +kernel) rfl, by decide +kernel, by decide +kernel⟩
theorem cvX6_end : Cond.instanceMethod yX6_end ∈ WT ∧ Cond.selects yX6_end.cls yX6_end yX6_end ∈ WT ∧ vwCl[6]? = some (yX6_end.cls, TX6, 13) := ⟨wt 619 (by decide +kernel) rfl, wt 620 (by decide +kernel) rfl, rfl⟩
theorem ceX0_ticksBehind : jCe yX0_ticksBehind mX0_ticksBehind 2 := ⟨wt 3 (by decide +kernel) rfl, wt 625 (by decide +kernel) rfl, by decide +kernel, by decide +kernel⟩
theorem cvX0_ticksBehind : Cond.instanceMethod yX0_ticksBehind ∈ WT ∧ Cond.selects yX0_ticksBehind.cls yX0_ticksBehind yX0_ticksBehind ∈ WT ∧ vwCl[0]? = some (yX0_ticksBehind.cls, TX0, 5) := ⟨wt 623 (by decide +kernel) rfl, wt 624 (by decide +kernel) rfl, rfl⟩
theorem ceX9_hear : jCe yX9_hear mX9_hear 0 := ⟨wt 1 (by decide +kernel) rfl, wt 286 (by decide +kernel) rfl, by decide +kernel, by decide +kernel⟩
theorem cvX9_hear : Cond.instanceMethod yX9_hear ∈ WT ∧ Cond.selects yX9_hear.cls yX9_hear yX9_hear ∈ WT ∧ vwCl[7]? = some (yX9_hear.cls, TX9, 12) := ⟨wt 285 (by decide +kernel) rfl, wt_p 1 (by decide +kernel : _ = some (_, 12)), rfl⟩
theorem ceX9_checkMoment : jCe yX9_checkMoment mX9_checkMoment 1 := ⟨wt 1 (by decide +kernel) rfl, wt 1035 (by decide +kernel) rfl, by decide +kernel, by decide +kernel⟩
theorem cvX9_checkMoment : Cond.instanceMethod yX9_checkMoment ∈ WT ∧ Cond.selects yX9_checkMoment.cls yX9_checkMoment yX9_checkMoment ∈ WT ∧ vwCl[7]? = some (yX9_checkMoment.cls, TX9, 12) := ⟨wt 1034 (by decide +kernel) rfl, wt_p 41 (by decide +kernel : _ = some (_, 12)), rfl⟩
theorem ceX9_chordAt : jCe yX9_chordAt mX9_chordAt 1 := ⟨wt 1 (by decide +kernel) rfl, wt 669 (by decide +kernel) rfl, by decide +kernel, by decide +kernel⟩
theorem cvX9_chordAt : Cond.instanceMethod yX9_chordAt ∈ WT ∧ Cond.selects yX9_chordAt.cls yX9_chordAt yX9_chordAt ∈ WT ∧ vwCl[7]? = some (yX9_chordAt.cls, TX9, 12) := ⟨wt 668 (by decide +kernel) rfl, wt_p 25 (by decide +kernel : _ = some (_, 12)), rfl⟩
theorem ceX1_rootClass : jCe yX1_rootClass mX1_rootClass 0 := ⟨wt 6 (by decide +kernel) rfl, wt 702 (by decide +kernel) rfl, by decide +kernel, by decide +kernel⟩
theorem cvX1_rootClass : Cond.instanceMethod yX1_rootClass ∈ WT ∧ Cond.selects yX1_rootClass.cls yX1_rootClass yX1_rootClass ∈ WT ∧ vwCl[1]? = some (yX1_rootClass.cls, TX1, 3) := ⟨wt 700 (by decide +kernel) rfl, wt 701 (by decide +kernel) rfl, rfl⟩
theorem ceX1_kindNumber : jCe yX1_kindNumber mX1_kindNumber 0 := ⟨wt 6 (by decide +kernel) rfl, wt 706 (by decide +kernel) rfl, by decide +kernel, by decide +kernel⟩
theorem cvX1_kindNumber : Cond.instanceMethod yX1_kindNumber ∈ WT ∧ Cond.selects yX1_kindNumber.cls yX1_kindNumber yX1_kindNumber ∈ WT ∧ vwCl[1]? = some (yX1_kindNumber.cls, TX1, 3) := ⟨wt 704 (by decide +kernel) rfl, wt 705 (by decide +kernel) rfl, rfl⟩
theorem ceX1_lowestTone : jCe yX1_lowestTone mX1_lowestTone 0 := ⟨wt 6 (by decide +kernel) rfl, wt 710 (by decide +kernel) rfl, by decide +kernel, by decide +kernel⟩
theorem cvX1_lowestTone : Cond.instanceMethod yX1_lowestTone ∈ WT ∧ Cond.selects yX1_lowestTone.cls yX1_lowestTone yX1_lowestTone ∈ WT ∧ vwCl[1]? = some (yX1_lowestTone.cls, TX1, 3) := ⟨wt 708 (by decide +kernel) rfl, wt 709 (by decide +kernel) rfl, rfl⟩
theorem ceX9_searchFaults : jCe yX9_searchFaults mX9_searchFaults 0 := ⟨wt 1 (by decide +kernel) rfl, wt 352 (by decide +kernel) rfl, by decide +kernel, by decide +kernel⟩
theorem cvX9_searchFaults : Cond.instanceMethod yX9_searchFaults ∈ WT ∧ Cond.selects yX9_searchFaults.cls yX9_searchFaults yX9_searchFaults ∈ WT ∧ vwCl[7]? = some (yX9_searchFaults.cls, TX9, 12) := ⟨wt 351 (by decide +kernel) rfl, wt_p 4 (by decide +kernel : _ = some (_, 12)), rfl⟩
theorem ceX2_size : jCe yX2_size mX2_size 0 := ⟨wt 7 (by decide +kernel) rfl, wt 718 (by decide +kernel) rfl, by decide +kernel, by decide +kernel⟩
theorem cvX2_size : Cond.instanceMethod yX2_size ∈ WT ∧ Cond.selects yX2_size.cls yX2_size yX2_size ∈ WT ∧ vwCl[2]? = some (yX2_size.cls, TX2, 8) := ⟨wt 716 (by decide +kernel) rfl, wt 717 (by decide +kernel) rfl, rfl⟩
theorem ceX9_checkFault : jCe yX9_checkFault mX9_checkFault 1 := ⟨wt 1 (by decide +kernel) rfl, wt 1061 (by decide +kernel) rfl, by decide +kernel, by decide +kernel⟩
theorem cvX9_checkFault : Cond.instanceMethod yX9_checkFault ∈ WT ∧ Cond.selects yX9_checkFault.cls yX9_checkFault yX9_checkFault ∈ WT ∧ vwCl[7]? = some (yX9_checkFault.cls, TX9, 12) := ⟨wt 1060 (by decide +kernel) rfl, wt_p 42 (by decide +kernel : _ = some (_, 12)), rfl⟩
theorem ceX2_kindAt : jCe yX2_kindAt mX2_kindAt 1 := ⟨wt 7 (by decide +kernel) rfl, wt 722 (by decide +kernel) rfl, by decide +kernel, by decide +kernel⟩
theorem cvX2_kindAt : Cond.instanceMethod yX2_kindAt ∈ WT ∧ Cond.selects yX2_kindAt.cls yX2_kindAt yX2_kindAt ∈ WT ∧ vwCl[2]? = some (yX2_kindAt.cls, TX2, 8) := ⟨wt 720 (by decide +kernel) rfl, wt 721 (by decide +kernel) rfl, rfl⟩
theorem ceX2_tickAt : jCe yX2_tickAt mX2_tickAt 1 := ⟨wt 7 (by decide +kernel) rfl, wt 730 (by decide +kernel) rfl, by decide +kernel, by decide +kernel⟩
theorem cvX2_tickAt : Cond.instanceMethod yX2_tickAt ∈ WT ∧ Cond.selects yX2_tickAt.cls yX2_tickAt yX2_tickAt ∈ WT ∧ vwCl[2]? = some (yX2_tickAt.cls, TX2, 8) := ⟨wt 728 (by decide +kernel) rfl, wt 729 (by decide +kernel) rfl, rfl⟩
theorem ceX2_partsAt : jCe yX2_partsAt mX2_partsAt 1 := ⟨wt 7 (by decide +kernel) rfl, wt 734 (by decide +kernel) rfl, by decide +kernel, by decide +kernel⟩
theorem cvX2_partsAt : Cond.instanceMethod yX2_partsAt ∈ WT ∧ Cond.selects yX2_partsAt.cls yX2_partsAt yX2_partsAt ∈ WT ∧ vwCl[2]? = some (yX2_partsAt.cls, TX2, 8) := ⟨wt 732 (by decide +kernel) rfl, wt 733 (by decide +kernel) rfl, rfl⟩
theorem ceX9_lastEnd : jCe yX9_lastEnd mX9_lastEnd 0 := ⟨wt 1 (by decide +kernel) rfl, wt 742 (by decide +kernel) rfl, by decide +kernel, by decide +kernel⟩
theorem cvX9_lastEnd : Cond.instanceMethod yX9_lastEnd ∈ WT ∧ Cond.selects yX9_lastEnd.cls yX9_lastEnd yX9_lastEnd ∈ WT ∧ vwCl[7]? = some (yX9_lastEnd.cls, TX9, 12) := ⟨wt 741 (by decide +kernel) rfl, wt_p 30 (by decide +kernel : _ = some (_, 12)), rfl⟩
theorem ceX0_barsUpTo : jCe yX0_barsUpTo mX0_barsUpTo 1 := ⟨wt 3 (by decide +kernel) rfl, wt 747 (by decide +kernel) rfl, by decide +kernel, by decide +kernel⟩
theorem cvX0_barsUpTo : Cond.instanceMethod yX0_barsUpTo ∈ WT ∧ Cond.selects yX0_barsUpTo.cls yX0_barsUpTo yX0_barsUpTo ∈ WT ∧ vwCl[0]? = some (yX0_barsUpTo.cls, TX0, 5) := ⟨wt 745 (by decide +kernel) rfl, wt 746 (by decide +kernel) rfl, rfl⟩
theorem ceX9_measureWidths : jCe yX9_measureWidths mX9_measureWidths 0 := ⟨wt 1 (by decide +kernel) rfl, wt 282 (by decide +kernel) rfl, by decide +kernel, by decide +kernel⟩
theorem cvX9_measureWidths : Cond.instanceMethod yX9_measureWidths ∈ WT ∧ Cond.selects yX9_measureWidths.cls yX9_measureWidths yX9_measureWidths ∈ WT ∧ vwCl[7]? = some (yX9_measureWidths.cls, TX9, 12) := ⟨wt 281 (by decide +kernel) rfl, wt_p 0 (by decide +kernel : _ = some (_, 12)), rfl⟩
theorem ceX4_widthAt : jCe yX4_widthAt mX4_widthAt 1 := ⟨wt 8 (by decide +kernel) rfl, wt 440 (by decide +kernel) rfl, by decide +kernel, by decide +kernel⟩
theorem cvX4_widthAt : Cond.instanceMethod yX4_widthAt ∈ WT ∧ Cond.selects yX4_widthAt.cls yX4_widthAt yX4_widthAt ∈ WT ∧ vwCl[4]? = some (yX4_widthAt.cls, TX4, 5) := ⟨wt 438 (by decide +kernel) rfl, wt 439 (by decide +kernel) rfl, rfl⟩
theorem ceX9_checkWidth : jCe yX9_checkWidth mX9_checkWidth 1 := ⟨wt 1 (by decide +kernel) rfl, wt 1082 (by decide +kernel) rfl, by decide +kernel, by decide +kernel⟩
theorem csX9_checkWidth : Cond.static yX9_checkWidth ∈ WT := wt 1081 (by decide +kernel) rfl
theorem ceX9_breakLines : jCe yX9_breakLines mX9_breakLines 1 := ⟨wt 1 (by decide +kernel) rfl, wt 756 (by decide +kernel) rfl, by decide +kernel, by decide +kernel⟩
theorem cvX9_breakLines : Cond.instanceMethod yX9_breakLines ∈ WT ∧ Cond.selects yX9_breakLines.cls yX9_breakLines yX9_breakLines ∈ WT ∧ vwCl[7]? = some (yX9_breakLines.cls, TX9, 12) := ⟨wt 755 (by decide +kernel) rfl, wt_p 32 (by decide +kernel : _ = some (_, 12)), rfl⟩
theorem ceX4_size : jCe yX4_size mX4_size 0 := ⟨wt 8 (by decide +kernel) rfl, wt 774 (by decide +kernel) rfl, by decide +kernel, by decide +kernel⟩
theorem cvX4_size : Cond.instanceMethod yX4_size ∈ WT ∧ Cond.selects yX4_size.cls yX4_size yX4_size ∈ WT ∧ vwCl[4]? = some (yX4_size.cls, TX4, 5) := ⟨wt 772 (by decide +kernel) rfl, wt 773 (by decide +kernel) rfl, rfl⟩
theorem ceX4_lineAt : jCe yX4_lineAt mX4_lineAt 1 := ⟨wt 8 (by decide +kernel) rfl, wt 1087 (by decide +kernel) rfl, by decide +kernel, by decide +kernel⟩
theorem cvX4_lineAt : Cond.instanceMethod yX4_lineAt ∈ WT ∧ Cond.selects yX4_lineAt.cls yX4_lineAt yX4_lineAt ∈ WT ∧ vwCl[4]? = some (yX4_lineAt.cls, TX4, 5) := ⟨wt 1085 (by decide +kernel) rfl, wt 1086 (by decide +kernel) rfl, rfl⟩
theorem ceX4_leastCost : jCe yX4_leastCost mX4_leastCost 0 := ⟨wt 8 (by decide +kernel) rfl, wt 778 (by decide +kernel) rfl, by decide +kernel, by decide +kernel⟩
theorem cvX4_leastCost : Cond.instanceMethod yX4_leastCost ∈ WT ∧ Cond.selects yX4_leastCost.cls yX4_leastCost yX4_leastCost ∈ WT ∧ vwCl[4]? = some (yX4_leastCost.cls, TX4, 5) := ⟨wt 776 (by decide +kernel) rfl, wt 777 (by decide +kernel) rfl, rfl⟩
theorem ceX9_mixPart : jCe yX9_mixPart mX9_mixPart 2 := ⟨wt 1 (by decide +kernel) rfl, wt 408 (by decide +kernel) rfl, by decide +kernel, by decide +kernel⟩
theorem cvX9_mixPart : Cond.instanceMethod yX9_mixPart ∈ WT ∧ Cond.selects yX9_mixPart.cls yX9_mixPart yX9_mixPart ∈ WT ∧ vwCl[7]? = some (yX9_mixPart.cls, TX9, 12) := ⟨wt 407 (by decide +kernel) rfl, wt_p 10 (by decide +kernel : _ = some (_, 12)), rfl⟩
theorem ceX9_mixBar : jCe yX9_mixBar mX9_mixBar 2 := ⟨wt 1 (by decide +kernel) rfl, wt 434 (by decide +kernel) rfl, by decide +kernel, by decide +kernel⟩
theorem cvX9_mixBar : Cond.instanceMethod yX9_mixBar ∈ WT ∧ Cond.selects yX9_mixBar.cls yX9_mixBar yX9_mixBar ∈ WT ∧ vwCl[7]? = some (yX9_mixBar.cls, TX9, 12) := ⟨wt 433 (by decide +kernel) rfl, wt_p 11 (by decide +kernel : _ = some (_, 12)), rfl⟩
theorem ceX9_mixMoments : jCe yX9_mixMoments mX9_mixMoments 1 := ⟨wt 1 (by decide +kernel) rfl, wt 662 (by decide +kernel) rfl, by decide +kernel, by decide +kernel⟩
theorem cvX9_mixMoments : Cond.instanceMethod yX9_mixMoments ∈ WT ∧ Cond.selects yX9_mixMoments.cls yX9_mixMoments yX9_mixMoments ∈ WT ∧ vwCl[7]? = some (yX9_mixMoments.cls, TX9, 12) := ⟨wt 661 (by decide +kernel) rfl, wt_p 24 (by decide +kernel : _ = some (_, 12)), rfl⟩
theorem ceX9_mixFaults : jCe yX9_mixFaults mX9_mixFaults 1 := ⟨wt 1 (by decide +kernel) rfl, wt 714 (by decide +kernel) rfl, by decide +kernel, by decide +kernel⟩
theorem cvX9_mixFaults : Cond.instanceMethod yX9_mixFaults ∈ WT ∧ Cond.selects yX9_mixFaults.cls yX9_mixFaults yX9_mixFaults ∈ WT ∧ vwCl[7]? = some (yX9_mixFaults.cls, TX9, 12) := ⟨wt 713 (by decide +kernel) rfl, wt_p 29 (by decide +kernel : _ = some (_, 12)), rfl⟩
theorem ceX9_bars : jCe yX9_bars mX9_bars 0 := ⟨wt 1 (by decide +kernel) rfl, wt 738 (by decide +kernel) rfl, by decide +kernel, by decide +kernel⟩
theorem cvX9_bars : Cond.instanceMethod yX9_bars ∈ WT ∧ Cond.selects yX9_bars.cls yX9_bars yX9_bars ∈ WT ∧ vwCl[7]? = some (yX9_bars.cls, TX9, 12) := ⟨wt 736 (by decide +kernel) rfl, wt 737 (by decide +kernel) rfl, rfl⟩
theorem ceX9_mix : jCe yX9_mix mX9_mix 2 := ⟨wt 1 (by decide +kernel) rfl, wt 415 (by decide +kernel) rfl, by decide +kernel, by decide +kernel⟩
theorem csX9_mix : Cond.static yX9_mix ∈ WT := wt 414 (by decide +kernel) rfl
theorem ceX9_mixLines : jCe yX9_mixLines mX9_mixLines 2 := ⟨wt 1 (by decide +kernel) rfl, wt 752 (by decide +kernel) rfl, by decide +kernel, by decide +kernel⟩
theorem cvX9_mixLines : Cond.instanceMethod yX9_mixLines ∈ WT ∧ Cond.selects yX9_mixLines.cls yX9_mixLines yX9_mixLines ∈ WT ∧ vwCl[7]? = some (yX9_mixLines.cls, TX9, 12) := ⟨wt 751 (by decide +kernel) rfl, wt_p 31 (by decide +kernel : _ = some (_, 12)), rfl⟩
theorem ceX9_mixSigns : jCe yX9_mixSigns mX9_mixSigns 2 := ⟨wt 1 (by decide +kernel) rfl, wt 634 (by decide +kernel) rfl, by decide +kernel, by decide +kernel⟩
theorem cvX9_mixSigns : Cond.instanceMethod yX9_mixSigns ∈ WT ∧ Cond.selects yX9_mixSigns.cls yX9_mixSigns yX9_mixSigns ∈ WT ∧ vwCl[7]? = some (yX9_mixSigns.cls, TX9, 12) := ⟨wt 633 (by decide +kernel) rfl, wt_p 23 (by decide +kernel : _ = some (_, 12)), rfl⟩
theorem ceX3_listen : jCe yX3_listen mX3_listen 1 := ⟨wt 5 (by decide +kernel) rfl, wt 290 (by decide +kernel) rfl, by decide +kernel, by decide +kernel⟩
theorem cvX3_listen : Cond.instanceMethod yX3_listen ∈ WT ∧ Cond.selects yX3_listen.cls yX3_listen yX3_listen ∈ WT ∧ vwCl[3]? = some (yX3_listen.cls, TX3, 4) := ⟨wt 288 (by decide +kernel) rfl, wt 289 (by decide +kernel) rfl, rfl⟩
theorem ceX2_search : jCe yX2_search mX2_search 2 := ⟨wt 7 (by decide +kernel) rfl, wt 356 (by decide +kernel) rfl, by decide +kernel, by decide +kernel⟩
theorem cvX2_search : Cond.instanceMethod yX2_search ∈ WT ∧ Cond.selects yX2_search.cls yX2_search yX2_search ∈ WT ∧ vwCl[2]? = some (yX2_search.cls, TX2, 8) := ⟨wt 354 (by decide +kernel) rfl, wt 355 (by decide +kernel) rfl, rfl⟩
theorem ceX4_measureWidths : jCe yX4_measureWidths mX4_measureWidths 2 := ⟨wt 8 (by decide +kernel) rfl, wt 321 (by decide +kernel) rfl, by decide +kernel, by decide +kernel⟩
theorem cvX4_measureWidths : Cond.instanceMethod yX4_measureWidths ∈ WT ∧ Cond.selects yX4_measureWidths.cls yX4_measureWidths yX4_measureWidths ∈ WT ∧ vwCl[4]? = some (yX4_measureWidths.cls, TX4, 5) := ⟨wt 319 (by decide +kernel) rfl, wt 320 (by decide +kernel) rfl, rfl⟩
theorem ceX4_breakUp : jCe yX4_breakUp mX4_breakUp 2 := ⟨wt 8 (by decide +kernel) rfl, wt 760 (by decide +kernel) rfl, by decide +kernel, by decide +kernel⟩
theorem cvX4_breakUp : Cond.instanceMethod yX4_breakUp ∈ WT ∧ Cond.selects yX4_breakUp.cls yX4_breakUp yX4_breakUp ∈ WT ∧ vwCl[4]? = some (yX4_breakUp.cls, TX4, 5) := ⟨wt 758 (by decide +kernel) rfl, wt 759 (by decide +kernel) rfl, rfl⟩
theorem ceX5_write : jCe yX5_write mX5_write 3 := ⟨wt 4 (by decide +kernel) rfl, wt 524 (by decide +kernel) rfl, by decide +kernel, by decide +kernel⟩
theorem cvX5_write : Cond.instanceMethod yX5_write ∈ WT ∧ Cond.selects yX5_write.cls yX5_write yX5_write ∈ WT ∧ vwCl[5]? = some (yX5_write.cls, TX5, 11) := ⟨wt 522 (by decide +kernel) rfl, wt 523 (by decide +kernel) rfl, rfl⟩
theorem ceX1_tell : jCe yX1_tell mX1_tell 3 := ⟨wt 6 (by decide +kernel) rfl, wt 673 (by decide +kernel) rfl, by decide +kernel, by decide +kernel⟩
theorem cvX1_tell : Cond.instanceMethod yX1_tell ∈ WT ∧ Cond.selects yX1_tell.cls yX1_tell yX1_tell ∈ WT ∧ vwCl[1]? = some (yX1_tell.cls, TX1, 3) := ⟨wt 671 (by decide +kernel) rfl, wt 672 (by decide +kernel) rfl, rfl⟩
theorem ceX9_allEvents : jCe yX9_allEvents mX9_allEvents 0 := ⟨wt 1 (by decide +kernel) rfl, wt 825 (by decide +kernel) rfl, by decide +kernel, by decide +kernel⟩
theorem cvX9_allEvents : Cond.instanceMethod yX9_allEvents ∈ WT ∧ Cond.selects yX9_allEvents.cls yX9_allEvents yX9_allEvents ∈ WT ∧ vwCl[7]? = some (yX9_allEvents.cls, TX9, 12) := ⟨wt 824 (by decide +kernel) rfl, wt_p 36 (by decide +kernel : _ = some (_, 12)), rfl⟩
theorem ceX8_isValue : jCe yX8_isValue mX8_isValue 1 := ⟨wt 13 (by decide +kernel) rfl, wt 801 (by decide +kernel) rfl, by decide +kernel, by decide +kernel⟩
theorem csX8_isValue : Cond.static yX8_isValue ∈ WT := wt 800 (by decide +kernel) rfl
theorem ceX9_init : jCe yX9_init mX9_init 0 := ⟨wt 1 (by decide +kernel) rfl, wt 24 (by decide +kernel) rfl, by decide +kernel, by decide +kernel⟩
theorem ciX9_init : Cond.instanceMethod yX9_init ∈ WT ∧ yX9_init.name = "<init>" := ⟨wt 23 (by decide +kernel) rfl, rfl⟩
theorem ceL_cell : jCe yL_cell mL_cell 2 := ⟨wt 0 (by decide +kernel) rfl, wt 785 (by decide +kernel) rfl, by decide +kernel, by decide +kernel⟩
theorem csL_cell : Cond.static yL_cell ∈ WT := wt 784 (by decide +kernel) rfl
theorem ceL_act : Cond.initialized yL_act.cls ∈ WT ∧ Cond.codeWith yL_act (jM.cc mL_act) (jM.nL mL_act) (jM.ret mL_act) (jM.hh mL_act) ∈ WT ∧ (yL_act.cls ≠ "java/lang/invoke/MethodHandle" ∧ yL_act.cls ≠ "java/lang/invoke/VarHandle") ∧ (parseMethodDescriptor yL_act.desc).map (fun d => d.parameters.length) = some 2 := ⟨wt 0 (by decide +kernel) rfl, wt 789 (by decide +kernel) rfl, by decide +kernel, by decide +kernel⟩
theorem csL_act : Cond.static yL_act ∈ WT := wt 788 (by decide +kernel) rfl
theorem ceX9_digest : jCe yX9_digest mX9_digest 0 := ⟨wt 1 (by decide +kernel) rfl, wt 278 (by decide +kernel) rfl, by decide +kernel, by decide +kernel⟩
theorem cvX9_digest : Cond.instanceMethod yX9_digest ∈ WT ∧ Cond.selects yX9_digest.cls yX9_digest yX9_digest ∈ WT ∧ vwCl[7]? = some (yX9_digest.cls, TX9, 12) := ⟨wt 276 (by decide +kernel) rfl, wt 277 (by decide +kernel) rfl, rfl⟩
theorem ceL_isBarSound : jCe yL_isBarSound mL_isBarSound 3 := ⟨wt 0 (by decide +kernel) rfl, wt 958 (by decide +kernel) rfl, by decide +kernel, by decide +kernel⟩
theorem csL_isBarSound : Cond.static yL_isBarSound ∈ WT := wt 957 (by decide +kernel) rfl
theorem ceL_areMomentsSound : jCe yL_areMomentsSound mL_areMomentsSound 1 := ⟨wt 0 (by decide +kernel) rfl, wt 1023 (by decide +kernel) rfl, by decide +kernel, by decide +kernel⟩
theorem csL_areMomentsSound : Cond.static yL_areMomentsSound ∈ WT := wt 1022 (by decide +kernel) rfl
theorem ceL_below : jCe yL_below mL_below 2 := ⟨wt 0 (by decide +kernel) rfl, wt 781 (by decide +kernel) rfl, by decide +kernel, by decide +kernel⟩
theorem csL_below : Cond.static yL_below ∈ WT := wt 780 (by decide +kernel) rfl
theorem ceL_areLinesSound : jCe yL_areLinesSound mL_areLinesSound 2 := ⟨wt 0 (by decide +kernel) rfl, wt 1074 (by decide +kernel) rfl, by decide +kernel, by decide +kernel⟩
theorem csL_areLinesSound : Cond.static yL_areLinesSound ∈ WT := wt 1073 (by decide +kernel) rfl
theorem ceX9_addRest : jCe yX9_addRest mX9_addRest 2 := ⟨wt 1 (by decide +kernel) rfl, wt 795 (by decide +kernel) rfl, by decide +kernel, by decide +kernel⟩
theorem cvX9_addRest : Cond.instanceMethod yX9_addRest ∈ WT ∧ Cond.selects yX9_addRest.cls yX9_addRest yX9_addRest ∈ WT ∧ vwCl[7]? = some (yX9_addRest.cls, TX9, 12) := ⟨wt 793 (by decide +kernel) rfl, wt 794 (by decide +kernel) rfl, rfl⟩
theorem ceX9_takeLast : jCe yX9_takeLast mX9_takeLast 1 := ⟨wt 1 (by decide +kernel) rfl, wt 874 (by decide +kernel) rfl, by decide +kernel, by decide +kernel⟩
theorem cvX9_takeLast : Cond.instanceMethod yX9_takeLast ∈ WT ∧ Cond.selects yX9_takeLast.cls yX9_takeLast yX9_takeLast ∈ WT ∧ vwCl[7]? = some (yX9_takeLast.cls, TX9, 12) := ⟨wt 872 (by decide +kernel) rfl, wt 873 (by decide +kernel) rfl, rfl⟩
theorem ceX9_setMetre : jCe yX9_setMetre mX9_setMetre 3 := ⟨wt 1 (by decide +kernel) rfl, wt 883 (by decide +kernel) rfl, by decide +kernel, by decide +kernel⟩
theorem cvX9_setMetre : Cond.instanceMethod yX9_setMetre ∈ WT ∧ Cond.selects yX9_setMetre.cls yX9_setMetre yX9_setMetre ∈ WT ∧ vwCl[7]? = some (yX9_setMetre.cls, TX9, 12) := ⟨wt 881 (by decide +kernel) rfl, wt 882 (by decide +kernel) rfl, rfl⟩
theorem ceX9_setKey : jCe yX9_setKey mX9_setKey 2 := ⟨wt 1 (by decide +kernel) rfl, wt 889 (by decide +kernel) rfl, by decide +kernel, by decide +kernel⟩
theorem cvX9_setKey : Cond.instanceMethod yX9_setKey ∈ WT ∧ Cond.selects yX9_setKey.cls yX9_setKey yX9_setKey ∈ WT ∧ vwCl[7]? = some (yX9_setKey.cls, TX9, 12) := ⟨wt 887 (by decide +kernel) rfl, wt 888 (by decide +kernel) rfl, rfl⟩
theorem ceX9_setShift : jCe yX9_setShift mX9_setShift 3 := ⟨wt 1 (by decide +kernel) rfl, wt 901 (by decide +kernel) rfl, by decide +kernel, by decide +kernel⟩
theorem cvX9_setShift : Cond.instanceMethod yX9_setShift ∈ WT ∧ Cond.selects yX9_setShift.cls yX9_setShift yX9_setShift ∈ WT ∧ vwCl[7]? = some (yX9_setShift.cls, TX9, 12) := ⟨wt 899 (by decide +kernel) rfl, wt 900 (by decide +kernel) rfl, rfl⟩
theorem ceX9_setRange : jCe yX9_setRange mX9_setRange 3 := ⟨wt 1 (by decide +kernel) rfl, wt 915 (by decide +kernel) rfl, by decide +kernel, by decide +kernel⟩
theorem cvX9_setRange : Cond.instanceMethod yX9_setRange ∈ WT ∧ Cond.selects yX9_setRange.cls yX9_setRange yX9_setRange ∈ WT ∧ vwCl[7]? = some (yX9_setRange.cls, TX9, 12) := ⟨wt 913 (by decide +kernel) rfl, wt 914 (by decide +kernel) rfl, rfl⟩
theorem ceX9_events : jCe yX9_events mX9_events 1 := ⟨wt 1 (by decide +kernel) rfl, wt 929 (by decide +kernel) rfl, by decide +kernel, by decide +kernel⟩
theorem cvX9_events : Cond.instanceMethod yX9_events ∈ WT ∧ Cond.selects yX9_events.cls yX9_events yX9_events ∈ WT ∧ vwCl[7]? = some (yX9_events.cls, TX9, 12) := ⟨wt 927 (by decide +kernel) rfl, wt 928 (by decide +kernel) rfl, rfl⟩
theorem ceX9_setPitch : jCe yX9_setPitch mX9_setPitch 4 := ⟨wt 1 (by decide +kernel) rfl, wt 934 (by decide +kernel) rfl, by decide +kernel, by decide +kernel⟩
theorem cvX9_setPitch : Cond.instanceMethod yX9_setPitch ∈ WT ∧ Cond.selects yX9_setPitch.cls yX9_setPitch yX9_setPitch ∈ WT ∧ vwCl[7]? = some (yX9_setPitch.cls, TX9, 12) := ⟨wt 932 (by decide +kernel) rfl, wt 933 (by decide +kernel) rfl, rfl⟩
theorem ceX9_addNote : jCe yX9_addNote mX9_addNote 4 := ⟨wt 1 (by decide +kernel) rfl, wt 955 (by decide +kernel) rfl, by decide +kernel, by decide +kernel⟩
theorem cvX9_addNote : Cond.instanceMethod yX9_addNote ∈ WT ∧ Cond.selects yX9_addNote.cls yX9_addNote yX9_addNote ∈ WT ∧ vwCl[7]? = some (yX9_addNote.cls, TX9, 12) := ⟨wt 953 (by decide +kernel) rfl, wt 954 (by decide +kernel) rfl, rfl⟩
theorem ceX9_signs : jCe yX9_signs mX9_signs 2 := ⟨wt 1 (by decide +kernel) rfl, wt 962 (by decide +kernel) rfl, by decide +kernel, by decide +kernel⟩
theorem cvX9_signs : Cond.instanceMethod yX9_signs ∈ WT ∧ Cond.selects yX9_signs.cls yX9_signs yX9_signs ∈ WT ∧ vwCl[7]? = some (yX9_signs.cls, TX9, 12) := ⟨wt 960 (by decide +kernel) rfl, wt 961 (by decide +kernel) rfl, rfl⟩
theorem ceX9_missing : jCe yX9_missing mX9_missing 2 := ⟨wt 1 (by decide +kernel) rfl, wt 966 (by decide +kernel) rfl, by decide +kernel, by decide +kernel⟩
theorem cvX9_missing : Cond.instanceMethod yX9_missing ∈ WT ∧ Cond.selects yX9_missing.cls yX9_missing yX9_missing ∈ WT ∧ vwCl[7]? = some (yX9_missing.cls, TX9, 12) := ⟨wt 964 (by decide +kernel) rfl, wt 965 (by decide +kernel) rfl, rfl⟩
theorem ceX9_eventOf : jCe yX9_eventOf mX9_eventOf 3 := ⟨wt 1 (by decide +kernel) rfl, wt 970 (by decide +kernel) rfl, by decide +kernel, by decide +kernel⟩
theorem cvX9_eventOf : Cond.instanceMethod yX9_eventOf ∈ WT ∧ Cond.selects yX9_eventOf.cls yX9_eventOf yX9_eventOf ∈ WT ∧ vwCl[7]? = some (yX9_eventOf.cls, TX9, 12) := ⟨wt 968 (by decide +kernel) rfl, wt 969 (by decide +kernel) rfl, rfl⟩
theorem ceX9_lengthOf : jCe yX9_lengthOf mX9_lengthOf 3 := ⟨wt 1 (by decide +kernel) rfl, wt 980 (by decide +kernel) rfl, by decide +kernel, by decide +kernel⟩
theorem cvX9_lengthOf : Cond.instanceMethod yX9_lengthOf ∈ WT ∧ Cond.selects yX9_lengthOf.cls yX9_lengthOf yX9_lengthOf ∈ WT ∧ vwCl[7]? = some (yX9_lengthOf.cls, TX9, 12) := ⟨wt 978 (by decide +kernel) rfl, wt 979 (by decide +kernel) rfl, rfl⟩
theorem ceX9_heightOf : jCe yX9_heightOf mX9_heightOf 2 := ⟨wt 1 (by decide +kernel) rfl, wt 984 (by decide +kernel) rfl, by decide +kernel, by decide +kernel⟩
theorem cvX9_heightOf : Cond.instanceMethod yX9_heightOf ∈ WT ∧ Cond.selects yX9_heightOf.cls yX9_heightOf yX9_heightOf ∈ WT ∧ vwCl[7]? = some (yX9_heightOf.cls, TX9, 12) := ⟨wt 982 (by decide +kernel) rfl, wt 983 (by decide +kernel) rfl, rfl⟩
theorem ceX9_beamOf : jCe yX9_beamOf mX9_beamOf 3 := ⟨wt 1 (by decide +kernel) rfl, wt 988 (by decide +kernel) rfl, by decide +kernel, by decide +kernel⟩
theorem cvX9_beamOf : Cond.instanceMethod yX9_beamOf ∈ WT ∧ Cond.selects yX9_beamOf.cls yX9_beamOf yX9_beamOf ∈ WT ∧ vwCl[7]? = some (yX9_beamOf.cls, TX9, 12) := ⟨wt 986 (by decide +kernel) rfl, wt 987 (by decide +kernel) rfl, rfl⟩
theorem ceX9_isTied : jCe yX9_isTied mX9_isTied 3 := ⟨wt 1 (by decide +kernel) rfl, wt 992 (by decide +kernel) rfl, by decide +kernel, by decide +kernel⟩
theorem cvX9_isTied : Cond.instanceMethod yX9_isTied ∈ WT ∧ Cond.selects yX9_isTied.cls yX9_isTied yX9_isTied ∈ WT ∧ vwCl[7]? = some (yX9_isTied.cls, TX9, 12) := ⟨wt 990 (by decide +kernel) rfl, wt 991 (by decide +kernel) rfl, rfl⟩
theorem ceX9_shown : jCe yX9_shown mX9_shown 3 := ⟨wt 1 (by decide +kernel) rfl, wt 996 (by decide +kernel) rfl, by decide +kernel, by decide +kernel⟩
theorem cvX9_shown : Cond.instanceMethod yX9_shown ∈ WT ∧ Cond.selects yX9_shown.cls yX9_shown yX9_shown ∈ WT ∧ vwCl[7]? = some (yX9_shown.cls, TX9, 12) := ⟨wt 994 (by decide +kernel) rfl, wt 995 (by decide +kernel) rfl, rfl⟩
theorem ceX9_shownWritten : jCe yX9_shownWritten mX9_shownWritten 3 := ⟨wt 1 (by decide +kernel) rfl, wt 1000 (by decide +kernel) rfl, by decide +kernel, by decide +kernel⟩
theorem cvX9_shownWritten : Cond.instanceMethod yX9_shownWritten ∈ WT ∧ Cond.selects yX9_shownWritten.cls yX9_shownWritten yX9_shownWritten ∈ WT ∧ vwCl[7]? = some (yX9_shownWritten.cls, TX9, 12) := ⟨wt 998 (by decide +kernel) rfl, wt 999 (by decide +kernel) rfl, rfl⟩
theorem ceX9_writtenPlace : jCe yX9_writtenPlace mX9_writtenPlace 2 := ⟨wt 1 (by decide +kernel) rfl, wt 1004 (by decide +kernel) rfl, by decide +kernel, by decide +kernel⟩
theorem cvX9_writtenPlace : Cond.instanceMethod yX9_writtenPlace ∈ WT ∧ Cond.selects yX9_writtenPlace.cls yX9_writtenPlace yX9_writtenPlace ∈ WT ∧ vwCl[7]? = some (yX9_writtenPlace.cls, TX9, 12) := ⟨wt 1002 (by decide +kernel) rfl, wt 1003 (by decide +kernel) rfl, rfl⟩
theorem ceX9_writtenAlter : jCe yX9_writtenAlter mX9_writtenAlter 2 := ⟨wt 1 (by decide +kernel) rfl, wt 1008 (by decide +kernel) rfl, by decide +kernel, by decide +kernel⟩
theorem cvX9_writtenAlter : Cond.instanceMethod yX9_writtenAlter ∈ WT ∧ Cond.selects yX9_writtenAlter.cls yX9_writtenAlter yX9_writtenAlter ∈ WT ∧ vwCl[7]? = some (yX9_writtenAlter.cls, TX9, 12) := ⟨wt 1006 (by decide +kernel) rfl, wt 1007 (by decide +kernel) rfl, rfl⟩
theorem ceX9_lengthOfBar : jCe yX9_lengthOfBar mX9_lengthOfBar 1 := ⟨wt 1 (by decide +kernel) rfl, wt 1012 (by decide +kernel) rfl, by decide +kernel, by decide +kernel⟩
theorem cvX9_lengthOfBar : Cond.instanceMethod yX9_lengthOfBar ∈ WT ∧ Cond.selects yX9_lengthOfBar.cls yX9_lengthOfBar yX9_lengthOfBar ∈ WT ∧ vwCl[7]? = some (yX9_lengthOfBar.cls, TX9, 12) := ⟨wt 1010 (by decide +kernel) rfl, wt 1011 (by decide +kernel) rfl, rfl⟩
theorem ceX9_beams : jCe yX9_beams mX9_beams 2 := ⟨wt 1 (by decide +kernel) rfl, wt 1016 (by decide +kernel) rfl, by decide +kernel, by decide +kernel⟩
theorem cvX9_beams : Cond.instanceMethod yX9_beams ∈ WT ∧ Cond.selects yX9_beams.cls yX9_beams yX9_beams ∈ WT ∧ vwCl[7]? = some (yX9_beams.cls, TX9, 12) := ⟨wt 1014 (by decide +kernel) rfl, wt 1015 (by decide +kernel) rfl, rfl⟩
theorem ceX9_beginOfBar : jCe yX9_beginOfBar mX9_beginOfBar 1 := ⟨wt 1 (by decide +kernel) rfl, wt 1020 (by decide +kernel) rfl, by decide +kernel, by decide +kernel⟩
theorem cvX9_beginOfBar : Cond.instanceMethod yX9_beginOfBar ∈ WT ∧ Cond.selects yX9_beginOfBar.cls yX9_beginOfBar yX9_beginOfBar ∈ WT ∧ vwCl[7]? = some (yX9_beginOfBar.cls, TX9, 12) := ⟨wt 1018 (by decide +kernel) rfl, wt 1019 (by decide +kernel) rfl, rfl⟩
theorem ceX9_moments : jCe yX9_moments mX9_moments 0 := ⟨wt 1 (by decide +kernel) rfl, wt 1027 (by decide +kernel) rfl, by decide +kernel, by decide +kernel⟩
theorem cvX9_moments : Cond.instanceMethod yX9_moments ∈ WT ∧ Cond.selects yX9_moments.cls yX9_moments yX9_moments ∈ WT ∧ vwCl[7]? = some (yX9_moments.cls, TX9, 12) := ⟨wt 1025 (by decide +kernel) rfl, wt 1026 (by decide +kernel) rfl, rfl⟩
theorem ceX9_tickOf : jCe yX9_tickOf mX9_tickOf 1 := ⟨wt 1 (by decide +kernel) rfl, wt 1031 (by decide +kernel) rfl, by decide +kernel, by decide +kernel⟩
theorem cvX9_tickOf : Cond.instanceMethod yX9_tickOf ∈ WT ∧ Cond.selects yX9_tickOf.cls yX9_tickOf yX9_tickOf ∈ WT ∧ vwCl[7]? = some (yX9_tickOf.cls, TX9, 12) := ⟨wt 1029 (by decide +kernel) rfl, wt 1030 (by decide +kernel) rfl, rfl⟩
theorem ceX9_root : jCe yX9_root mX9_root 1 := ⟨wt 1 (by decide +kernel) rfl, wt 1041 (by decide +kernel) rfl, by decide +kernel, by decide +kernel⟩
theorem cvX9_root : Cond.instanceMethod yX9_root ∈ WT ∧ Cond.selects yX9_root.cls yX9_root yX9_root ∈ WT ∧ vwCl[7]? = some (yX9_root.cls, TX9, 12) := ⟨wt 1039 (by decide +kernel) rfl, wt 1040 (by decide +kernel) rfl, rfl⟩
theorem ceX9_kind : jCe yX9_kind mX9_kind 1 := ⟨wt 1 (by decide +kernel) rfl, wt 1045 (by decide +kernel) rfl, by decide +kernel, by decide +kernel⟩
theorem cvX9_kind : Cond.instanceMethod yX9_kind ∈ WT ∧ Cond.selects yX9_kind.cls yX9_kind yX9_kind ∈ WT ∧ vwCl[7]? = some (yX9_kind.cls, TX9, 12) := ⟨wt 1043 (by decide +kernel) rfl, wt 1044 (by decide +kernel) rfl, rfl⟩
theorem ceX9_inversion : jCe yX9_inversion mX9_inversion 1 := ⟨wt 1 (by decide +kernel) rfl, wt 1049 (by decide +kernel) rfl, by decide +kernel, by decide +kernel⟩
theorem cvX9_inversion : Cond.instanceMethod yX9_inversion ∈ WT ∧ Cond.selects yX9_inversion.cls yX9_inversion yX9_inversion ∈ WT ∧ vwCl[7]? = some (yX9_inversion.cls, TX9, 12) := ⟨wt 1047 (by decide +kernel) rfl, wt 1048 (by decide +kernel) rfl, rfl⟩
theorem ceX9_faults : jCe yX9_faults mX9_faults 0 := ⟨wt 1 (by decide +kernel) rfl, wt 1053 (by decide +kernel) rfl, by decide +kernel, by decide +kernel⟩
theorem cvX9_faults : Cond.instanceMethod yX9_faults ∈ WT ∧ Cond.selects yX9_faults.cls yX9_faults yX9_faults ∈ WT ∧ vwCl[7]? = some (yX9_faults.cls, TX9, 12) := ⟨wt 1051 (by decide +kernel) rfl, wt 1052 (by decide +kernel) rfl, rfl⟩
theorem ceX9_tickOfFault : jCe yX9_tickOfFault mX9_tickOfFault 1 := ⟨wt 1 (by decide +kernel) rfl, wt 1057 (by decide +kernel) rfl, by decide +kernel, by decide +kernel⟩
theorem cvX9_tickOfFault : Cond.instanceMethod yX9_tickOfFault ∈ WT ∧ Cond.selects yX9_tickOfFault.cls yX9_tickOfFault yX9_tickOfFault ∈ WT ∧ vwCl[7]? = some (yX9_tickOfFault.cls, TX9, 12) := ⟨wt 1055 (by decide +kernel) rfl, wt 1056 (by decide +kernel) rfl, rfl⟩
theorem ceX9_kindOfFault : jCe yX9_kindOfFault mX9_kindOfFault 1 := ⟨wt 1 (by decide +kernel) rfl, wt 1067 (by decide +kernel) rfl, by decide +kernel, by decide +kernel⟩
theorem cvX9_kindOfFault : Cond.instanceMethod yX9_kindOfFault ∈ WT ∧ Cond.selects yX9_kindOfFault.cls yX9_kindOfFault yX9_kindOfFault ∈ WT ∧ vwCl[7]? = some (yX9_kindOfFault.cls, TX9, 12) := ⟨wt 1065 (by decide +kernel) rfl, wt 1066 (by decide +kernel) rfl, rfl⟩
theorem ceX9_partsOfFault : jCe yX9_partsOfFault mX9_partsOfFault 1 := ⟨wt 1 (by decide +kernel) rfl, wt 1071 (by decide +kernel) rfl, by decide +kernel, by decide +kernel⟩
theorem cvX9_partsOfFault : Cond.instanceMethod yX9_partsOfFault ∈ WT ∧ Cond.selects yX9_partsOfFault.cls yX9_partsOfFault yX9_partsOfFault ∈ WT ∧ vwCl[7]? = some (yX9_partsOfFault.cls, TX9, 12) := ⟨wt 1069 (by decide +kernel) rfl, wt 1070 (by decide +kernel) rfl, rfl⟩
theorem ceX9_lineOf : jCe yX9_lineOf mX9_lineOf 2 := ⟨wt 1 (by decide +kernel) rfl, wt 1079 (by decide +kernel) rfl, by decide +kernel, by decide +kernel⟩
theorem cvX9_lineOf : Cond.instanceMethod yX9_lineOf ∈ WT ∧ Cond.selects yX9_lineOf.cls yX9_lineOf yX9_lineOf ∈ WT ∧ vwCl[7]? = some (yX9_lineOf.cls, TX9, 12) := ⟨wt 1077 (by decide +kernel) rfl, wt 1078 (by decide +kernel) rfl, rfl⟩
theorem ceX9_widthOf : jCe yX9_widthOf mX9_widthOf 1 := ⟨wt 1 (by decide +kernel) rfl, wt 1091 (by decide +kernel) rfl, by decide +kernel, by decide +kernel⟩
theorem cvX9_widthOf : Cond.instanceMethod yX9_widthOf ∈ WT ∧ Cond.selects yX9_widthOf.cls yX9_widthOf yX9_widthOf ∈ WT ∧ vwCl[7]? = some (yX9_widthOf.cls, TX9, 12) := ⟨wt 1089 (by decide +kernel) rfl, wt 1090 (by decide +kernel) rfl, rfl⟩
theorem ceX9_lines : jCe yX9_lines mX9_lines 1 := ⟨wt 1 (by decide +kernel) rfl, wt 1095 (by decide +kernel) rfl, by decide +kernel, by decide +kernel⟩
theorem cvX9_lines : Cond.instanceMethod yX9_lines ∈ WT ∧ Cond.selects yX9_lines.cls yX9_lines yX9_lines ∈ WT ∧ vwCl[7]? = some (yX9_lines.cls, TX9, 12) := ⟨wt 1093 (by decide +kernel) rfl, wt 1094 (by decide +kernel) rfl, rfl⟩
theorem ceX9_costOf : jCe yX9_costOf mX9_costOf 1 := ⟨wt 1 (by decide +kernel) rfl, wt 1099 (by decide +kernel) rfl, by decide +kernel, by decide +kernel⟩
theorem cvX9_costOf : Cond.instanceMethod yX9_costOf ∈ WT ∧ Cond.selects yX9_costOf.cls yX9_costOf yX9_costOf ∈ WT ∧ vwCl[7]? = some (yX9_costOf.cls, TX9, 12) := ⟨wt 1097 (by decide +kernel) rfl, wt 1098 (by decide +kernel) rfl, rfl⟩
theorem kX9_3 : Cond.methodLink RX9 3 objectInit ∈ WT ∧ Cond.instanceMethod objectInit ∈ WT ∧ Cond.code objectInit ⟨#[0xb1]⟩ 1 none ∈ WT := ⟨wt 25 (by decide +kernel) rfl, wt 26 (by decide +kernel) rfl, wt 27 (by decide +kernel) rfl⟩
theorem kX9_15 : jLk RX9 15 yX6_init mX6_init 0 := jLk.mk (wt 31 (by decide +kernel) rfl) ceX6_init
theorem kX9_18 : jLk RX9 18 yX0_init mX0_init 0 := jLk.mk (wt 78 (by decide +kernel) rfl) ceX0_init
theorem kX9_25 : jLk RX9 25 yX5_init mX5_init 0 := jLk.mk (wt 111 (by decide +kernel) rfl) ceX5_init
theorem kX9_32 : jLk RX9 32 yX3_init mX3_init 0 := jLk.mk (wt 152 (by decide +kernel) rfl) ceX3_init
theorem kX9_39 : jLk RX9 39 yX1_init mX1_init 0 := jLk.mk (wt 171 (by decide +kernel) rfl) ceX1_init
theorem kX9_46 : jLk RX9 46 yX2_init mX2_init 0 := jLk.mk (wt 187 (by decide +kernel) rfl) ceX2_init
theorem kX9_53 : jLk RX9 53 yX4_init mX4_init 0 := jLk.mk (wt 218 (by decide +kernel) rfl) ceX4_init
theorem kX9_75 : jLk RX9 75 yX9_partAt mX9_partAt 1 := jLk.mk (wt 445 (by decide +kernel) rfl) ceX9_partAt
theorem kX9_79 : jLk RX9 79 yX9_checkPitch mX9_checkPitch 2 := jLk.mk (wt 941 (by decide +kernel) rfl) ceX9_checkPitch
theorem kX9_83 : jLk RX9 83 yX9_checkValue mX9_checkValue 1 := jLk.mk (wt 796 (by decide +kernel) rfl) ceX9_checkValue
theorem kX9_87 : jLk RX9 87 yX9_checkRoom mX9_checkRoom 2 := jLk.mk (wt 818 (by decide +kernel) rfl) ceX9_checkRoom
theorem kX9_91 : jLk RX9 91 yX9_forgetWhatFollows mX9_forgetWhatFollows 0 := jLk.mk (wt 843 (by decide +kernel) rfl) ceX9_forgetWhatFollows
theorem kX9_94 : jLk RX9 94 yX6_append mX6_append 3 := jLk.mk (wt 847 (by decide +kernel) rfl) ceX6_append
theorem kX9_98 : jLk RX9 98 yX6_size mX6_size 0 := jLk.mk (wt 409 (by decide +kernel) rfl) ceX6_size
theorem kX9_109 : jLk RX9 109 yX6_removeLast mX6_removeLast 0 := jLk.mk (wt 876 (by decide +kernel) rfl) ceX6_removeLast
theorem kX9_112 : jLk RX9 112 yX9_partWith mX9_partWith 2 := jLk.mk (wt 935 (by decide +kernel) rfl) ceX9_partWith
theorem kX9_116 : jLk RX9 116 yX9_checkNote mX9_checkNote 2 := jLk.mk (wt 946 (by decide +kernel) rfl) ceX9_checkNote
theorem kX9_119 : jLk RX9 119 yX6_heightAt mX6_heightAt 1 := jLk.mk (wt 418 (by decide +kernel) rfl) ceX6_heightAt
theorem kX9_123 : jLk RX9 123 yX6_givePitch mX6_givePitch 3 := jLk.mk (wt 951 (by decide +kernel) rfl) ceX6_givePitch
theorem kX9_127 : jLk RX9 127 yX9_checkBar mX9_checkBar 1 := jLk.mk (wt 517 (by decide +kernel) rfl) ceX9_checkBar
theorem kX9_135 : jLk RX9 135 yX0_changeMetre mX0_changeMetre 3 := jLk.mk (wt 885 (by decide +kernel) rfl) ceX0_changeMetre
theorem kX9_138 : jLk RX9 138 yX0_lengthAt mX0_lengthAt 1 := jLk.mk (wt 436 (by decide +kernel) rfl) ceX0_lengthAt
theorem kX9_141 : jLk RX9 141 yX9_checkKey mX9_checkKey 1 := jLk.mk (wt 890 (by decide +kernel) rfl) ceX9_checkKey
theorem kX9_144 : jLk RX9 144 yX0_keyAt mX0_keyAt 1 := jLk.mk (wt 629 (by decide +kernel) rfl) ceX0_keyAt
theorem kX9_147 : jLk RX9 147 yX0_changeKey mX0_changeKey 2 := jLk.mk (wt 894 (by decide +kernel) rfl) ceX0_changeKey
theorem kX9_152 : jLk RX9 152 yX6_changeRange mX6_changeRange 2 := jLk.mk (wt 917 (by decide +kernel) rfl) ceX6_changeRange
theorem kX9_155 : jLk RX9 155 yX6_notesOutOfRange mX6_notesOutOfRange 0 := jLk.mk (wt 921 (by decide +kernel) rfl) ceX6_notesOutOfRange
theorem kX9_160 : jLk RX9 160 yX6_changeShift mX6_changeShift 2 := jLk.mk (wt 903 (by decide +kernel) rfl) ceX6_changeShift
theorem kX9_163 : jLk RX9 163 yX6_notesWithoutWrittenPitch mX6_notesWithoutWrittenPitch 0 := jLk.mk (wt 907 (by decide +kernel) rfl) ceX6_notesWithoutWrittenPitch
theorem kX9_166 : jLk RX9 166 yX6_beginAt mX6_beginAt 1 := jLk.mk (wt 417 (by decide +kernel) rfl) ceX6_beginAt
theorem kX9_169 : jLk RX9 169 yX0_barAt mX0_barAt 1 := jLk.mk (wt 419 (by decide +kernel) rfl) ceX0_barAt
theorem kX9_172 : jLk RX9 172 yX6_writtenPlaceAt mX6_writtenPlaceAt 1 := jLk.mk (wt 423 (by decide +kernel) rfl) ceX6_writtenPlaceAt
theorem kX9_175 : jLk RX9 175 yX6_writtenAlterAt mX6_writtenAlterAt 1 := jLk.mk (wt 427 (by decide +kernel) rfl) ceX6_writtenAlterAt
theorem kX9_186 : jLk RX9 186 yX6_keyAsWritten mX6_keyAsWritten 1 := jLk.mk (wt 630 (by decide +kernel) rfl) ceX6_keyAsWritten
theorem kX9_189 : jLk RX9 189 yX0_beginAt mX0_beginAt 1 := jLk.mk (wt 435 (by decide +kernel) rfl) ceX0_beginAt
theorem kX9_190 : jLk RX9 190 yX9_measureAt mX9_measureAt 2 := jLk.mk (wt 441 (by decide +kernel) rfl) ceX9_measureAt
theorem kX9_194 : jLk RX9 194 yX5_size mX5_size 0 := jLk.mk (wt 610 (by decide +kernel) rfl) ceX5_size
theorem kX9_195 : jLk RX9 195 yX9_measureWith mX9_measureWith 3 := jLk.mk (wt 971 (by decide +kernel) rfl) ceX9_measureWith
theorem kX9_199 : jLk RX9 199 yX5_eventAt mX5_eventAt 1 := jLk.mk (wt 635 (by decide +kernel) rfl) ceX5_eventAt
theorem kX9_202 : jLk RX9 202 yX5_lengthAt mX5_lengthAt 1 := jLk.mk (wt 639 (by decide +kernel) rfl) ceX5_lengthAt
theorem kX9_203 : jLk RX9 203 yX5_tiedAt mX5_tiedAt 1 := jLk.mk (wt 643 (by decide +kernel) rfl) ceX5_tiedAt
theorem kX9_207 : jLk RX9 207 yX5_shownAt mX5_shownAt 1 := jLk.mk (wt 647 (by decide +kernel) rfl) ceX5_shownAt
theorem kX9_210 : jLk RX9 210 yX5_shownAsWrittenAt mX5_shownAsWrittenAt 1 := jLk.mk (wt 651 (by decide +kernel) rfl) ceX5_shownAsWrittenAt
theorem kX9_213 : jLk RX9 213 yX5_beamTotal mX5_beamTotal 0 := jLk.mk (wt 614 (by decide +kernel) rfl) ceX5_beamTotal
theorem kX9_216 : jLk RX9 216 yX5_beamAt mX5_beamAt 1 := jLk.mk (wt 655 (by decide +kernel) rfl) ceX5_beamAt
theorem kX9_219 : jLk RX9 219 yX6_end mX6_end 0 := jLk.mk (wt 618 (by decide +kernel) rfl) ceX6_end
theorem kX9_222 : jLk RX9 222 yX0_ticksBehind mX0_ticksBehind 2 := jLk.mk (wt 622 (by decide +kernel) rfl) ceX0_ticksBehind
theorem kX9_225 : jLk RX9 225 yX9_hear mX9_hear 0 := jLk.mk (wt 283 (by decide +kernel) rfl) ceX9_hear
theorem kX9_228 : jLk RX9 228 yX3_size mX3_size 0 := jLk.mk (wt 663 (by decide +kernel) rfl) ceX3_size
theorem kX9_229 : jLk RX9 229 yX9_checkMoment mX9_checkMoment 1 := jLk.mk (wt 1032 (by decide +kernel) rfl) ceX9_checkMoment
theorem kX9_232 : jLk RX9 232 yX3_tickAt mX3_tickAt 1 := jLk.mk (wt 664 (by decide +kernel) rfl) ceX3_tickAt
theorem kX9_235 : jLk RX9 235 yX3_eventAt mX3_eventAt 2 := jLk.mk (wt 665 (by decide +kernel) rfl) ceX3_eventAt
theorem kX9_237 : jLk RX9 237 yX9_chordAt mX9_chordAt 1 := jLk.mk (wt 666 (by decide +kernel) rfl) ceX9_chordAt
theorem kX9_241 : jLk RX9 241 yX1_rootClass mX1_rootClass 0 := jLk.mk (wt 699 (by decide +kernel) rfl) ceX1_rootClass
theorem kX9_244 : jLk RX9 244 yX1_kindNumber mX1_kindNumber 0 := jLk.mk (wt 703 (by decide +kernel) rfl) ceX1_kindNumber
theorem kX9_247 : jLk RX9 247 yX1_lowestTone mX1_lowestTone 0 := jLk.mk (wt 707 (by decide +kernel) rfl) ceX1_lowestTone
theorem kX9_250 : jLk RX9 250 yX9_searchFaults mX9_searchFaults 0 := jLk.mk (wt 349 (by decide +kernel) rfl) ceX9_searchFaults
theorem kX9_253 : jLk RX9 253 yX2_size mX2_size 0 := jLk.mk (wt 715 (by decide +kernel) rfl) ceX2_size
theorem kX9_254 : jLk RX9 254 yX9_checkFault mX9_checkFault 1 := jLk.mk (wt 1058 (by decide +kernel) rfl) ceX9_checkFault
theorem kX9_257 : jLk RX9 257 yX2_kindAt mX2_kindAt 1 := jLk.mk (wt 719 (by decide +kernel) rfl) ceX2_kindAt
theorem kX9_260 : jLk RX9 260 yX2_tickAt mX2_tickAt 1 := jLk.mk (wt 727 (by decide +kernel) rfl) ceX2_tickAt
theorem kX9_261 : jLk RX9 261 yX2_partsAt mX2_partsAt 1 := jLk.mk (wt 731 (by decide +kernel) rfl) ceX2_partsAt
theorem kX9_270 : jLk RX9 270 yX2_search mX2_search 2 := jLk.mk (wt 353 (by decide +kernel) rfl) ceX2_search
theorem kX9_274 : jLk RX9 274 yX9_lastEnd mX9_lastEnd 0 := jLk.mk (wt 739 (by decide +kernel) rfl) ceX9_lastEnd
theorem kX9_277 : jLk RX9 277 yX0_barsUpTo mX0_barsUpTo 1 := jLk.mk (wt 744 (by decide +kernel) rfl) ceX0_barsUpTo
theorem kX9_280 : jLk RX9 280 yX9_measureWidths mX9_measureWidths 0 := jLk.mk (wt 279 (by decide +kernel) rfl) ceX9_measureWidths
theorem kX9_283 : jLk RX9 283 yX4_widthAt mX4_widthAt 1 := jLk.mk (wt 437 (by decide +kernel) rfl) ceX4_widthAt
theorem kX9_286 : jLk RX9 286 yX9_checkWidth mX9_checkWidth 1 := jLk.mk (wt 1080 (by decide +kernel) rfl) ceX9_checkWidth
theorem kX9_289 : jLk RX9 289 yX9_breakLines mX9_breakLines 1 := jLk.mk (wt 753 (by decide +kernel) rfl) ceX9_breakLines
theorem kX9_292 : jLk RX9 292 yX4_size mX4_size 0 := jLk.mk (wt 771 (by decide +kernel) rfl) ceX4_size
theorem kX9_293 : jLk RX9 293 yX4_lineAt mX4_lineAt 1 := jLk.mk (wt 1084 (by decide +kernel) rfl) ceX4_lineAt
theorem kX9_296 : jLk RX9 296 yX4_leastCost mX4_leastCost 0 := jLk.mk (wt 775 (by decide +kernel) rfl) ceX4_leastCost
theorem kX9_307 : jLk RX9 307 yX9_mixPart mX9_mixPart 2 := jLk.mk (wt 405 (by decide +kernel) rfl) ceX9_mixPart
theorem kX9_311 : jLk RX9 311 yX9_mixBar mX9_mixBar 2 := jLk.mk (wt 431 (by decide +kernel) rfl) ceX9_mixBar
theorem kX9_315 : jLk RX9 315 yX9_mixMoments mX9_mixMoments 1 := jLk.mk (wt 659 (by decide +kernel) rfl) ceX9_mixMoments
theorem kX9_319 : jLk RX9 319 yX9_mixFaults mX9_mixFaults 1 := jLk.mk (wt 711 (by decide +kernel) rfl) ceX9_mixFaults
theorem kX9_322 : jLk RX9 322 yX9_bars mX9_bars 0 := jLk.mk (wt 735 (by decide +kernel) rfl) ceX9_bars
theorem kX9_325 : jLk RX9 325 yX9_mix mX9_mix 2 := jLk.mk (wt 413 (by decide +kernel) rfl) ceX9_mix
theorem kX9_329 : jLk RX9 329 yX9_mixLines mX9_mixLines 2 := jLk.mk (wt 749 (by decide +kernel) rfl) ceX9_mixLines
theorem kX9_334 : jLk RX9 334 yX9_mixSigns mX9_mixSigns 2 := jLk.mk (wt 631 (by decide +kernel) rfl) ceX9_mixSigns
theorem kX9_338 : jLk RX9 338 yX3_listen mX3_listen 1 := jLk.mk (wt 287 (by decide +kernel) rfl) ceX3_listen
theorem kX9_342 : jLk RX9 342 yX4_measureWidths mX4_measureWidths 2 := jLk.mk (wt 318 (by decide +kernel) rfl) ceX4_measureWidths
theorem kX9_345 : jLk RX9 345 yX4_breakUp mX4_breakUp 2 := jLk.mk (wt 757 (by decide +kernel) rfl) ceX4_breakUp
theorem kX9_348 : Cond.methodLink RX9 348 Lib.Math.max.name ∈ WT ∧ Cond.static Lib.Math.max.name ∈ WT ∧ Cond.initialized "java/lang/Math" ∈ WT ∧ Cond.code Lib.Math.max.name Lib.Math.max.code 2 (some .int) ∈ WT := ⟨wt 743 (by decide +kernel) rfl, wt 537 (by decide +kernel) rfl, wt 17 (by decide +kernel) rfl, wt 538 (by decide +kernel) rfl⟩
theorem kX9_358 : jLk RX9 358 yX6_has mX6_has 1 := jLk.mk (wt 939 (by decide +kernel) rfl) ceX6_has
theorem kX9_363 : jLk RX9 363 yX5_write mX5_write 3 := jLk.mk (wt 521 (by decide +kernel) rfl) ceX5_write
theorem kX9_367 : jLk RX9 367 yX5_has mX5_has 1 := jLk.mk (wt 975 (by decide +kernel) rfl) ceX5_has
theorem kX9_370 : jLk RX9 370 yX1_tell mX1_tell 3 := jLk.mk (wt 670 (by decide +kernel) rfl) ceX1_tell
theorem kX9_374 : jLk RX9 374 yX3_has mX3_has 1 := jLk.mk (wt 1036 (by decide +kernel) rfl) ceX3_has
theorem kX9_377 : jLk RX9 377 yX2_has mX2_has 1 := jLk.mk (wt 1062 (by decide +kernel) rfl) ceX2_has
theorem kX9_380 : jLk RX9 380 yX9_allEvents mX9_allEvents 0 := jLk.mk (wt 822 (by decide +kernel) rfl) ceX9_allEvents
theorem kX9_383 : jLk RX9 383 yX0_end mX0_end 0 := jLk.mk (wt 826 (by decide +kernel) rfl) ceX0_end
theorem kX9_386 : jLk RX9 386 yX6_isNote mX6_isNote 1 := jLk.mk (wt 949 (by decide +kernel) rfl) ceX6_isNote
theorem kX9_393 : jLk RX9 393 yX7_isPitch mX7_isPitch 2 := jLk.mk (wt 944 (by decide +kernel) rfl) ceX7_isPitch
theorem kX9_399 : jLk RX9 399 yX8_isValue mX8_isValue 1 := jLk.mk (wt 799 (by decide +kernel) rfl) ceX8_isValue
theorem kX0_3 : Cond.methodLink RX0 3 objectInit ∈ WT ∧ Cond.instanceMethod objectInit ∈ WT ∧ Cond.code objectInit ⟨#[0xb1]⟩ 1 none ∈ WT := ⟨wt 81 (by decide +kernel) rfl, wt 26 (by decide +kernel) rfl, wt 27 (by decide +kernel) rfl⟩
theorem kX0_24 : jLk RX0 24 yX0_changeMetre mX0_changeMetre 3 := jLk.mk (wt 82 (by decide +kernel) rfl) ceX0_changeMetre
theorem kX0_28 : jLk RX0 28 yX0_isBar mX0_isBar 1 := jLk.mk (wt 86 (by decide +kernel) rfl) ceX0_isBar
theorem kX0_32 : jLk RX0 32 yX0_beginAt mX0_beginAt 1 := jLk.mk (wt 89 (by decide +kernel) rfl) ceX0_beginAt
theorem kX0_40 : jLk RX0 40 yX0_barAt mX0_barAt 1 := jLk.mk (wt 748 (by decide +kernel) rfl) ceX0_barAt
theorem kX0_43 : jLk RX0 43 yX0_lengthAt mX0_lengthAt 1 := jLk.mk (wt 626 (by decide +kernel) rfl) ceX0_lengthAt
theorem kX0_46 : Cond.methodLink RX0 46 Lib.Math.min.name ∈ WT ∧ Cond.static Lib.Math.min.name ∈ WT ∧ Cond.initialized "java/lang/Math" ∈ WT ∧ Cond.code Lib.Math.min.name Lib.Math.min.code 2 (some .int) ∈ WT := ⟨wt 627 (by decide +kernel) rfl, wt 308 (by decide +kernel) rfl, wt 17 (by decide +kernel) rfl, wt 309 (by decide +kernel) rfl⟩
theorem kX0_52 : Cond.methodLink RX0 52 Lib.Math.max.name ∈ WT ∧ Cond.static Lib.Math.max.name ∈ WT ∧ Cond.initialized "java/lang/Math" ∈ WT ∧ Cond.code Lib.Math.max.name Lib.Math.max.code 2 (some .int) ∈ WT := ⟨wt 628 (by decide +kernel) rfl, wt 537 (by decide +kernel) rfl, wt 17 (by decide +kernel) rfl, wt 538 (by decide +kernel) rfl⟩
theorem kX1_3 : Cond.methodLink RX1 3 objectInit ∈ WT ∧ Cond.instanceMethod objectInit ∈ WT ∧ Cond.code objectInit ⟨#[0xb1]⟩ 1 none ∈ WT := ⟨wt 174 (by decide +kernel) rfl, wt 26 (by decide +kernel) rfl, wt 27 (by decide +kernel) rfl⟩
theorem kX1_21 : jLk RX1 21 yX3_eventAt mX3_eventAt 2 := jLk.mk (wt 674 (by decide +kernel) rfl) ceX3_eventAt
theorem kX1_27 : jLk RX1 27 yX6_heightAt mX6_heightAt 1 := jLk.mk (wt 675 (by decide +kernel) rfl) ceX6_heightAt
theorem kX1_33 : Cond.methodLink RX1 33 Lib.Math.min.name ∈ WT ∧ Cond.static Lib.Math.min.name ∈ WT ∧ Cond.initialized "java/lang/Math" ∈ WT ∧ Cond.code Lib.Math.min.name Lib.Math.min.code 2 (some .int) ∈ WT := ⟨wt 676 (by decide +kernel) rfl, wt 308 (by decide +kernel) rfl, wt 17 (by decide +kernel) rfl, wt 309 (by decide +kernel) rfl⟩
theorem kX1_38 : jLk RX1 38 yX1_forget mX1_forget 0 := jLk.mk (wt 677 (by decide +kernel) rfl) ceX1_forget
theorem kX1_41 : jLk RX1 41 yJ6_bitCount_0f7a4 mJ6_bitCount_0f7a4 1 := jLk.mk (wt 681 (by decide +kernel) rfl) ceJ6_bitCount_0f7a4
theorem kX1_46 : jLk RX1 46 yX1_findRoot mX1_findRoot 2 := jLk.mk (wt 687 (by decide +kernel) rfl) ceX1_findRoot
theorem kX1_50 : jLk RX1 50 yX1_findKind mX1_findKind 3 := jLk.mk (wt 691 (by decide +kernel) rfl) ceX1_findKind
theorem kX2_3 : Cond.methodLink RX2 3 objectInit ∈ WT ∧ Cond.instanceMethod objectInit ∈ WT ∧ Cond.code objectInit ⟨#[0xb1]⟩ 1 none ∈ WT := ⟨wt 190 (by decide +kernel) rfl, wt 26 (by decide +kernel) rfl, wt 27 (by decide +kernel) rfl⟩
theorem kX2_38 : jLk RX2 38 yX2_has mX2_has 1 := jLk.mk (wt 723 (by decide +kernel) rfl) ceX2_has
theorem kX2_42 : jLk RX2 42 yJ7_fill_53178 mJ7_fill_53178 2 := jLk.mk (wt 357 (by decide +kernel) rfl) ceJ7_fill_53178
theorem kX2_48 : jLk RX2 48 yX3_size mX3_size 0 := jLk.mk (wt 358 (by decide +kernel) rfl) ceX3_size
theorem kX2_54 : jLk RX2 54 yX3_tickAt mX3_tickAt 1 := jLk.mk (wt 359 (by decide +kernel) rfl) ceX3_tickAt
theorem kX2_58 : jLk RX2 58 yX2_goOn mX2_goOn 3 := jLk.mk (wt 360 (by decide +kernel) rfl) ceX2_goOn
theorem kX2_62 : jLk RX2 62 yX2_searchParallels mX2_searchParallels 1 := jLk.mk (wt 380 (by decide +kernel) rfl) ceX2_searchParallels
theorem kX2_66 : jLk RX2 66 yX2_searchCrossings mX2_searchCrossings 1 := jLk.mk (wt 391 (by decide +kernel) rfl) ceX2_searchCrossings
theorem kX2_69 : jLk RX2 69 yX3_eventAt mX3_eventAt 2 := jLk.mk (wt 364 (by decide +kernel) rfl) ceX3_eventAt
theorem kX2_73 : jLk RX2 73 yX2_searchNote mX2_searchNote 3 := jLk.mk (wt 395 (by decide +kernel) rfl) ceX2_searchNote
theorem kX2_77 : jLk RX2 77 yX6_heightAt mX6_heightAt 1 := jLk.mk (wt 368 (by decide +kernel) rfl) ceX6_heightAt
theorem kX2_82 : jLk RX2 82 yX6_isNote mX6_isNote 1 := jLk.mk (wt 372 (by decide +kernel) rfl) ceX6_isNote
theorem kX2_85 : jLk RX2 85 yX6_beginAt mX6_beginAt 1 := jLk.mk (wt 376 (by decide +kernel) rfl) ceX6_beginAt
theorem kX2_88 : jLk RX2 88 yJ6_compare_7cf53 mJ6_compare_7cf53 2 := jLk.mk (wt 377 (by decide +kernel) rfl) ceJ6_compare_7cf53
theorem kX2_93 : jLk RX2 93 yJ9_floorMod_7cf53 mJ9_floorMod_7cf53 2 := jLk.mk (wt 384 (by decide +kernel) rfl) ceJ9_floorMod_7cf53
theorem kX2_98 : jLk RX2 98 yX2_add mX2_add 3 := jLk.mk (wt 387 (by decide +kernel) rfl) ceX2_add
theorem kX2_102 : Cond.methodLink RX2 102 Lib.Math.abs.name ∈ WT ∧ Cond.static Lib.Math.abs.name ∈ WT ∧ Cond.initialized "java/lang/Math" ∈ WT ∧ Cond.code Lib.Math.abs.name Lib.Math.abs.code 1 (some .int) ∈ WT := ⟨wt 399 (by decide +kernel) rfl, wt 332 (by decide +kernel) rfl, wt 17 (by decide +kernel) rfl, wt 333 (by decide +kernel) rfl⟩
theorem kX2_105 : jLk RX2 105 yX6_isOutOfRange mX6_isOutOfRange 1 := jLk.mk (wt 400 (by decide +kernel) rfl) ceX6_isOutOfRange
theorem kX3_3 : Cond.methodLink RX3 3 objectInit ∈ WT ∧ Cond.instanceMethod objectInit ∈ WT ∧ Cond.code objectInit ⟨#[0xb1]⟩ 1 none ∈ WT := ⟨wt 155 (by decide +kernel) rfl, wt 26 (by decide +kernel) rfl, wt 27 (by decide +kernel) rfl⟩
theorem kX3_25 : jLk RX3 25 yX3_has mX3_has 1 := jLk.mk (wt 342 (by decide +kernel) rfl) ceX3_has
theorem kX3_29 : jLk RX3 29 yJ7_fill_53178 mJ7_fill_53178 2 := jLk.mk (wt 291 (by decide +kernel) rfl) ceJ7_fill_53178
theorem kX3_35 : jLk RX3 35 yX3_nextBegin mX3_nextBegin 1 := jLk.mk (wt 294 (by decide +kernel) rfl) ceX3_nextBegin
theorem kX3_39 : jLk RX3 39 yX3_eventGoingOn mX3_eventGoingOn 3 := jLk.mk (wt 310 (by decide +kernel) rfl) ceX3_eventGoingOn
theorem kX3_43 : jLk RX3 43 yX6_has mX6_has 1 := jLk.mk (wt 298 (by decide +kernel) rfl) ceX6_has
theorem kX3_46 : jLk RX3 46 yX6_beginAt mX6_beginAt 1 := jLk.mk (wt 302 (by decide +kernel) rfl) ceX6_beginAt
theorem kX3_50 : Cond.methodLink RX3 50 Lib.Math.min.name ∈ WT ∧ Cond.static Lib.Math.min.name ∈ WT ∧ Cond.initialized "java/lang/Math" ∈ WT ∧ Cond.code Lib.Math.min.name Lib.Math.min.code 2 (some .int) ∈ WT := ⟨wt 307 (by decide +kernel) rfl, wt 308 (by decide +kernel) rfl, wt 17 (by decide +kernel) rfl, wt 309 (by decide +kernel) rfl⟩
theorem kX3_56 : jLk RX3 56 yX6_endAt mX6_endAt 1 := jLk.mk (wt 314 (by decide +kernel) rfl) ceX6_endAt
theorem kX4_3 : Cond.methodLink RX4 3 objectInit ∈ WT ∧ Cond.instanceMethod objectInit ∈ WT ∧ Cond.code objectInit ⟨#[0xb1]⟩ 1 none ∈ WT := ⟨wt 221 (by decide +kernel) rfl, wt 26 (by decide +kernel) rfl, wt 27 (by decide +kernel) rfl⟩
theorem kX4_28 : jLk RX4 28 yX0_beginAt mX0_beginAt 1 := jLk.mk (wt 322 (by decide +kernel) rfl) ceX0_beginAt
theorem kX4_34 : jLk RX4 34 yX0_lengthAt mX0_lengthAt 1 := jLk.mk (wt 323 (by decide +kernel) rfl) ceX0_lengthAt
theorem kX4_37 : jLk RX4 37 yX0_keyAt mX0_keyAt 1 := jLk.mk (wt 327 (by decide +kernel) rfl) ceX0_keyAt
theorem kX4_40 : Cond.methodLink RX4 40 Lib.Math.abs.name ∈ WT ∧ Cond.static Lib.Math.abs.name ∈ WT ∧ Cond.initialized "java/lang/Math" ∈ WT ∧ Cond.code Lib.Math.abs.name Lib.Math.abs.code 1 (some .int) ∈ WT := ⟨wt 331 (by decide +kernel) rfl, wt 332 (by decide +kernel) rfl, wt 17 (by decide +kernel) rfl, wt 333 (by decide +kernel) rfl⟩
theorem kX4_45 : jLk RX4 45 yX3_size mX3_size 0 := jLk.mk (wt 334 (by decide +kernel) rfl) ceX3_size
theorem kX4_51 : jLk RX4 51 yX3_tickAt mX3_tickAt 1 := jLk.mk (wt 338 (by decide +kernel) rfl) ceX3_tickAt
theorem kX4_54 : jLk RX4 54 yX4_widthOfGap mX4_widthOfGap 1 := jLk.mk (wt 346 (by decide +kernel) rfl) ceX4_widthOfGap
theorem kX4_57 : Cond.methodLink RX4 57 Lib.Math.min.name ∈ WT ∧ Cond.static Lib.Math.min.name ∈ WT ∧ Cond.initialized "java/lang/Math" ∈ WT ∧ Cond.code Lib.Math.min.name Lib.Math.min.code 2 (some .int) ∈ WT := ⟨wt 761 (by decide +kernel) rfl, wt 308 (by decide +kernel) rfl, wt 17 (by decide +kernel) rfl, wt 309 (by decide +kernel) rfl⟩
theorem kX4_61 : Cond.methodLink RX4 61 Lib.Math.max.name ∈ WT ∧ Cond.static Lib.Math.max.name ∈ WT ∧ Cond.initialized "java/lang/Math" ∈ WT ∧ Cond.code Lib.Math.max.name Lib.Math.max.code 2 (some .int) ∈ WT := ⟨wt 762 (by decide +kernel) rfl, wt 537 (by decide +kernel) rfl, wt 17 (by decide +kernel) rfl, wt 538 (by decide +kernel) rfl⟩
theorem kX4_64 : jLk RX4 64 yX4_chooseLine mX4_chooseLine 3 := jLk.mk (wt 763 (by decide +kernel) rfl) ceX4_chooseLine
theorem kX4_68 : jLk RX4 68 yX4_numberLines mX4_numberLines 1 := jLk.mk (wt 767 (by decide +kernel) rfl) ceX4_numberLines
theorem kX5_3 : Cond.methodLink RX5 3 objectInit ∈ WT ∧ Cond.instanceMethod objectInit ∈ WT ∧ Cond.code objectInit ⟨#[0xb1]⟩ 1 none ∈ WT := ⟨wt 114 (by decide +kernel) rfl, wt 26 (by decide +kernel) rfl, wt 27 (by decide +kernel) rfl⟩
theorem kX5_47 : jLk RX5 47 yX5_has mX5_has 1 := jLk.mk (wt 573 (by decide +kernel) rfl) ceX5_has
theorem kX5_51 : jLk RX5 51 yX0_beginAt mX0_beginAt 1 := jLk.mk (wt 525 (by decide +kernel) rfl) ceX0_beginAt
theorem kX5_57 : jLk RX5 57 yX0_lengthAt mX0_lengthAt 1 := jLk.mk (wt 526 (by decide +kernel) rfl) ceX0_lengthAt
theorem kX5_60 : jLk RX5 60 yX6_firstEndingBehind mX6_firstEndingBehind 1 := jLk.mk (wt 527 (by decide +kernel) rfl) ceX6_firstEndingBehind
theorem kX5_65 : jLk RX5 65 yX6_size mX6_size 0 := jLk.mk (wt 532 (by decide +kernel) rfl) ceX6_size
theorem kX5_69 : jLk RX5 69 yX6_beginAt mX6_beginAt 1 := jLk.mk (wt 533 (by decide +kernel) rfl) ceX6_beginAt
theorem kX5_70 : jLk RX5 70 yX6_endAt mX6_endAt 1 := jLk.mk (wt 534 (by decide +kernel) rfl) ceX6_endAt
theorem kX5_73 : Cond.methodLink RX5 73 Lib.Math.min.name ∈ WT ∧ Cond.static Lib.Math.min.name ∈ WT ∧ Cond.initialized "java/lang/Math" ∈ WT ∧ Cond.code Lib.Math.min.name Lib.Math.min.code 2 (some .int) ∈ WT := ⟨wt 535 (by decide +kernel) rfl, wt 308 (by decide +kernel) rfl, wt 17 (by decide +kernel) rfl, wt 309 (by decide +kernel) rfl⟩
theorem kX5_79 : Cond.methodLink RX5 79 Lib.Math.max.name ∈ WT ∧ Cond.static Lib.Math.max.name ∈ WT ∧ Cond.initialized "java/lang/Math" ∈ WT ∧ Cond.code Lib.Math.max.name Lib.Math.max.code 2 (some .int) ∈ WT := ⟨wt 536 (by decide +kernel) rfl, wt 537 (by decide +kernel) rfl, wt 17 (by decide +kernel) rfl, wt 538 (by decide +kernel) rfl⟩
theorem kX5_82 : jLk RX5 82 yX5_writeStretch mX5_writeStretch 3 := jLk.mk (wt 539 (by decide +kernel) rfl) ceX5_writeStretch
theorem kX5_86 : jLk RX5 86 yX0_end mX0_end 0 := jLk.mk (wt 552 (by decide +kernel) rfl) ceX0_end
theorem kX5_89 : jLk RX5 89 yX5_markSigns mX5_markSigns 2 := jLk.mk (wt 556 (by decide +kernel) rfl) ceX5_markSigns
theorem kX5_93 : jLk RX5 93 yX0_groupLengthAt mX0_groupLengthAt 1 := jLk.mk (wt 561 (by decide +kernel) rfl) ceX0_groupLengthAt
theorem kX5_96 : jLk RX5 96 yX5_beamSigns mX5_beamSigns 3 := jLk.mk (wt 565 (by decide +kernel) rfl) ceX5_beamSigns
theorem kX5_100 : jLk RX5 100 yX0_keyAt mX0_keyAt 1 := jLk.mk (wt 577 (by decide +kernel) rfl) ceX0_keyAt
theorem kX5_103 : jLk RX5 103 yX5_showAlters mX5_showAlters 2 := jLk.mk (wt 578 (by decide +kernel) rfl) ceX5_showAlters
theorem kX5_106 : jLk RX5 106 yX6_keyAsWritten mX6_keyAsWritten 1 := jLk.mk (wt 600 (by decide +kernel) rfl) ceX6_keyAsWritten
theorem kX5_109 : jLk RX5 109 yX5_showAltersAsWritten mX5_showAltersAsWritten 2 := jLk.mk (wt 604 (by decide +kernel) rfl) ceX5_showAltersAsWritten
theorem kX5_112 : jLk RX5 112 yX8_greatestIn mX8_greatestIn 1 := jLk.mk (wt 543 (by decide +kernel) rfl) ceX8_greatestIn
theorem kX5_117 : jLk RX5 117 yX5_addSign mX5_addSign 3 := jLk.mk (wt 548 (by decide +kernel) rfl) ceX5_addSign
theorem kX5_120 : jLk RX5 120 yX6_isNote mX6_isNote 1 := jLk.mk (wt 560 (by decide +kernel) rfl) ceX6_isNote
theorem kX5_123 : jLk RX5 123 yX5_joinToSignAhead mX5_joinToSignAhead 1 := jLk.mk (wt 569 (by decide +kernel) rfl) ceX5_joinToSignAhead
theorem kX5_127 : jLk RX5 127 yJ7_fill_53178 mJ7_fill_53178 2 := jLk.mk (wt 582 (by decide +kernel) rfl) ceJ7_fill_53178
theorem kX5_133 : jLk RX5 133 yX6_placeAt mX6_placeAt 1 := jLk.mk (wt 583 (by decide +kernel) rfl) ceX6_placeAt
theorem kX5_136 : jLk RX5 136 yX6_alterAt mX6_alterAt 1 := jLk.mk (wt 587 (by decide +kernel) rfl) ceX6_alterAt
theorem kX5_139 : jLk RX5 139 yX5_alterToShow mX5_alterToShow 3 := jLk.mk (wt 591 (by decide +kernel) rfl) ceX5_alterToShow
theorem kX5_143 : jLk RX5 143 yX6_writtenPlaceAt mX6_writtenPlaceAt 1 := jLk.mk (wt 608 (by decide +kernel) rfl) ceX6_writtenPlaceAt
theorem kX5_146 : jLk RX5 146 yX6_writtenAlterAt mX6_writtenAlterAt 1 := jLk.mk (wt 609 (by decide +kernel) rfl) ceX6_writtenAlterAt
theorem kX5_149 : jLk RX5 149 yX7_alterByKey mX7_alterByKey 2 := jLk.mk (wt 595 (by decide +kernel) rfl) ceX7_alterByKey
theorem kX6_3 : Cond.methodLink RX6 3 objectInit ∈ WT ∧ Cond.instanceMethod objectInit ∈ WT ∧ Cond.code objectInit ⟨#[0xb1]⟩ 1 none ∈ WT := ⟨wt 34 (by decide +kernel) rfl, wt 26 (by decide +kernel) rfl, wt 27 (by decide +kernel) rfl⟩
theorem kX6_46 : jLk RX6 46 yX6_givePitch mX6_givePitch 3 := jLk.mk (wt 851 (by decide +kernel) rfl) ceX6_givePitch
theorem kX6_50 : jLk RX6 50 yX6_has mX6_has 1 := jLk.mk (wt 306 (by decide +kernel) rfl) ceX6_has
theorem kX6_54 : jLk RX6 54 yX7_plainHeight mX7_plainHeight 1 := jLk.mk (wt 855 (by decide +kernel) rfl) ceX7_plainHeight
theorem kX6_60 : jLk RX6 60 yX6_writeForInstrument mX6_writeForInstrument 1 := jLk.mk (wt 864 (by decide +kernel) rfl) ceX6_writeForInstrument
theorem kX6_70 : jLk RX6 70 yX7_isPitch mX7_isPitch 2 := jLk.mk (wt 868 (by decide +kernel) rfl) ceX7_isPitch
theorem kX6_74 : jLk RX6 74 yX6_endAt mX6_endAt 1 := jLk.mk (wt 531 (by decide +kernel) rfl) ceX6_endAt
theorem kX6_77 : jLk RX6 77 yX6_isNote mX6_isNote 1 := jLk.mk (wt 911 (by decide +kernel) rfl) ceX6_isNote
theorem kX6_80 : jLk RX6 80 yX6_isOutOfRange mX6_isOutOfRange 1 := jLk.mk (wt 925 (by decide +kernel) rfl) ceX6_isOutOfRange
theorem kX7_9 : jLk RX7 9 yJ9_floorMod_7cf53 mJ9_floorMod_7cf53 2 := jLk.mk (wt 858 (by decide +kernel) rfl) ceJ9_floorMod_7cf53
theorem kX7_21 : jLk RX7 21 yJ9_floorDiv_7cf53 mJ9_floorDiv_7cf53 2 := jLk.mk (wt 861 (by decide +kernel) rfl) ceJ9_floorDiv_7cf53
theorem kL_11 : jLk RL 11 yX9_init mX9_init 0 := jLk.mk (wt 22 (by decide +kernel) rfl) ceX9_init
theorem kL_12 : jLk RL 12 yL_cell mL_cell 2 := jLk.mk (wt 783 (by decide +kernel) rfl) ceL_cell
theorem kL_18 : Cond.methodLink RL 18 yL_act ∈ WT := wt 787 (by decide +kernel) rfl
theorem kL_22 : jLk RL 22 yX9_digest mX9_digest 0 := jLk.mk (wt 275 (by decide +kernel) rfl) ceX9_digest
theorem kL_26 : jLk RL 26 yL_isBarSound mL_isBarSound 3 := jLk.mk (wt 956 (by decide +kernel) rfl) ceL_isBarSound
theorem kL_30 : jLk RL 30 yL_areMomentsSound mL_areMomentsSound 1 := jLk.mk (wt 1021 (by decide +kernel) rfl) ceL_areMomentsSound
theorem kL_34 : jLk RL 34 yL_below mL_below 2 := jLk.mk (wt 779 (by decide +kernel) rfl) ceL_below
theorem kL_38 : jLk RL 38 yL_areLinesSound mL_areLinesSound 2 := jLk.mk (wt 1072 (by decide +kernel) rfl) ceL_areLinesSound
theorem kL_42 : jLk RL 42 yX9_addRest mX9_addRest 2 := jLk.mk (wt 792 (by decide +kernel) rfl) ceX9_addRest
theorem kL_45 : jLk RL 45 yX9_takeLast mX9_takeLast 1 := jLk.mk (wt 871 (by decide +kernel) rfl) ceX9_takeLast
theorem kL_49 : jLk RL 49 yX9_setMetre mX9_setMetre 3 := jLk.mk (wt 880 (by decide +kernel) rfl) ceX9_setMetre
theorem kL_53 : jLk RL 53 yX9_setKey mX9_setKey 2 := jLk.mk (wt 886 (by decide +kernel) rfl) ceX9_setKey
theorem kL_56 : jLk RL 56 yX9_setShift mX9_setShift 3 := jLk.mk (wt 898 (by decide +kernel) rfl) ceX9_setShift
theorem kL_59 : jLk RL 59 yX9_setRange mX9_setRange 3 := jLk.mk (wt 912 (by decide +kernel) rfl) ceX9_setRange
theorem kL_62 : jLk RL 62 yX9_events mX9_events 1 := jLk.mk (wt 926 (by decide +kernel) rfl) ceX9_events
theorem kL_65 : Cond.methodLink RL 65 Lib.Math.max.name ∈ WT ∧ Cond.static Lib.Math.max.name ∈ WT ∧ Cond.initialized "java/lang/Math" ∈ WT ∧ Cond.code Lib.Math.max.name Lib.Math.max.code 2 (some .int) ∈ WT := ⟨wt 930 (by decide +kernel) rfl, wt 537 (by decide +kernel) rfl, wt 17 (by decide +kernel) rfl, wt 538 (by decide +kernel) rfl⟩
theorem kL_70 : jLk RL 70 yX9_setPitch mX9_setPitch 4 := jLk.mk (wt 931 (by decide +kernel) rfl) ceX9_setPitch
theorem kL_74 : jLk RL 74 yX9_addNote mX9_addNote 4 := jLk.mk (wt 952 (by decide +kernel) rfl) ceX9_addNote
theorem kL_81 : jLk RL 81 yX9_signs mX9_signs 2 := jLk.mk (wt 959 (by decide +kernel) rfl) ceX9_signs
theorem kL_84 : jLk RL 84 yX9_missing mX9_missing 2 := jLk.mk (wt 963 (by decide +kernel) rfl) ceX9_missing
theorem kL_87 : jLk RL 87 yX9_eventOf mX9_eventOf 3 := jLk.mk (wt 967 (by decide +kernel) rfl) ceX9_eventOf
theorem kL_90 : jLk RL 90 yX9_lengthOf mX9_lengthOf 3 := jLk.mk (wt 977 (by decide +kernel) rfl) ceX9_lengthOf
theorem kL_93 : jLk RL 93 yX9_heightOf mX9_heightOf 2 := jLk.mk (wt 981 (by decide +kernel) rfl) ceX9_heightOf
theorem kL_96 : jLk RL 96 yX9_beamOf mX9_beamOf 3 := jLk.mk (wt 985 (by decide +kernel) rfl) ceX9_beamOf
theorem kL_99 : jLk RL 99 yX9_isTied mX9_isTied 3 := jLk.mk (wt 989 (by decide +kernel) rfl) ceX9_isTied
theorem kL_103 : jLk RL 103 yX9_shown mX9_shown 3 := jLk.mk (wt 993 (by decide +kernel) rfl) ceX9_shown
theorem kL_106 : jLk RL 106 yX9_shownWritten mX9_shownWritten 3 := jLk.mk (wt 997 (by decide +kernel) rfl) ceX9_shownWritten
theorem kL_109 : jLk RL 109 yX9_writtenPlace mX9_writtenPlace 2 := jLk.mk (wt 1001 (by decide +kernel) rfl) ceX9_writtenPlace
theorem kL_112 : jLk RL 112 yX9_writtenAlter mX9_writtenAlter 2 := jLk.mk (wt 1005 (by decide +kernel) rfl) ceX9_writtenAlter
theorem kL_115 : jLk RL 115 yX9_lengthOfBar mX9_lengthOfBar 1 := jLk.mk (wt 1009 (by decide +kernel) rfl) ceX9_lengthOfBar
theorem kL_118 : jLk RL 118 yX9_beams mX9_beams 2 := jLk.mk (wt 1013 (by decide +kernel) rfl) ceX9_beams
theorem kL_121 : jLk RL 121 yX9_beginOfBar mX9_beginOfBar 1 := jLk.mk (wt 1017 (by decide +kernel) rfl) ceX9_beginOfBar
theorem kL_124 : jLk RL 124 yX9_moments mX9_moments 0 := jLk.mk (wt 1024 (by decide +kernel) rfl) ceX9_moments
theorem kL_128 : jLk RL 128 yX9_tickOf mX9_tickOf 1 := jLk.mk (wt 1028 (by decide +kernel) rfl) ceX9_tickOf
theorem kL_131 : jLk RL 131 yX9_root mX9_root 1 := jLk.mk (wt 1038 (by decide +kernel) rfl) ceX9_root
theorem kL_134 : jLk RL 134 yX9_kind mX9_kind 1 := jLk.mk (wt 1042 (by decide +kernel) rfl) ceX9_kind
theorem kL_137 : jLk RL 137 yX9_inversion mX9_inversion 1 := jLk.mk (wt 1046 (by decide +kernel) rfl) ceX9_inversion
theorem kL_140 : jLk RL 140 yX9_faults mX9_faults 0 := jLk.mk (wt 1050 (by decide +kernel) rfl) ceX9_faults
theorem kL_143 : jLk RL 143 yX9_tickOfFault mX9_tickOfFault 1 := jLk.mk (wt 1054 (by decide +kernel) rfl) ceX9_tickOfFault
theorem kL_146 : jLk RL 146 yX9_kindOfFault mX9_kindOfFault 1 := jLk.mk (wt 1064 (by decide +kernel) rfl) ceX9_kindOfFault
theorem kL_149 : jLk RL 149 yX9_partsOfFault mX9_partsOfFault 1 := jLk.mk (wt 1068 (by decide +kernel) rfl) ceX9_partsOfFault
theorem kL_152 : jLk RL 152 yX9_bars mX9_bars 0 := jLk.mk (wt 1075 (by decide +kernel) rfl) ceX9_bars
theorem kL_155 : jLk RL 155 yX9_lineOf mX9_lineOf 2 := jLk.mk (wt 1076 (by decide +kernel) rfl) ceX9_lineOf
theorem kL_158 : jLk RL 158 yX9_widthOf mX9_widthOf 1 := jLk.mk (wt 1088 (by decide +kernel) rfl) ceX9_widthOf
theorem kL_161 : jLk RL 161 yX9_lines mX9_lines 1 := jLk.mk (wt 1092 (by decide +kernel) rfl) ceX9_lines
theorem kL_164 : jLk RL 164 yX9_costOf mX9_costOf 1 := jLk.mk (wt 1096 (by decide +kernel) rfl) ceX9_costOf
theorem fX9_11 : jFl RX9 11 7 0 := ⟨RX9, TX9, 12, rfl, by decide, wt 238 (by decide +kernel) rfl, inX9⟩
theorem fX9_19 : jFl RX9 19 7 1 := ⟨RX9, TX9, 12, rfl, by decide, wt 239 (by decide +kernel) rfl, inX9⟩
theorem fX9_26 : jFl RX9 26 7 2 := ⟨RX9, TX9, 12, rfl, by decide, wt 240 (by decide +kernel) rfl, inX9⟩
theorem fX9_33 : jFl RX9 33 7 3 := ⟨RX9, TX9, 12, rfl, by decide, wt 241 (by decide +kernel) rfl, inX9⟩
theorem fX9_40 : jFl RX9 40 7 4 := ⟨RX9, TX9, 12, rfl, by decide, wt 242 (by decide +kernel) rfl, inX9⟩
theorem fX9_47 : jFl RX9 47 7 5 := ⟨RX9, TX9, 12, rfl, by decide, wt 243 (by decide +kernel) rfl, inX9⟩
theorem fX9_54 : jFl RX9 54 7 6 := ⟨RX9, TX9, 12, rfl, by decide, wt 244 (by decide +kernel) rfl, inX9⟩
theorem fX9_58 : jFl RX9 58 7 7 := ⟨RX9, TX9, 12, rfl, by decide, wt 245 (by decide +kernel) rfl, inX9⟩
theorem fX9_62 : jFl RX9 62 7 8 := ⟨RX9, TX9, 12, rfl, by decide, wt 246 (by decide +kernel) rfl, inX9⟩
theorem fX9_65 : jFl RX9 65 7 9 := ⟨RX9, TX9, 12, rfl, by decide, wt 247 (by decide +kernel) rfl, inX9⟩
theorem fX9_68 : jFl RX9 68 7 10 := ⟨RX9, TX9, 12, rfl, by decide, wt 248 (by decide +kernel) rfl, inX9⟩
theorem fX9_72 : jFl RX9 72 7 11 := ⟨RX9, TX9, 12, rfl, by decide, wt 249 (by decide +kernel) rfl, inX9⟩
theorem fX0_9 : jFl RX0 9 0 0 := ⟨RX0, TX0, 5, rfl, by decide, wt 93 (by decide +kernel) rfl, inX0⟩
theorem fX0_15 : jFl RX0 15 0 1 := ⟨RX0, TX0, 5, rfl, by decide, wt 94 (by decide +kernel) rfl, inX0⟩
theorem fX0_18 : jFl RX0 18 0 2 := ⟨RX0, TX0, 5, rfl, by decide, wt 95 (by decide +kernel) rfl, inX0⟩
theorem fX0_21 : jFl RX0 21 0 3 := ⟨RX0, TX0, 5, rfl, by decide, wt 96 (by decide +kernel) rfl, inX0⟩
theorem fX0_36 : jFl RX0 36 0 4 := ⟨RX0, TX0, 5, rfl, by decide, wt 97 (by decide +kernel) rfl, inX0⟩
theorem fX1_9 : jFl RX1 9 1 0 := ⟨RX1, TX1, 3, rfl, by decide, wt 175 (by decide +kernel) rfl, inX1⟩
theorem fX1_15 : jFl RX1 15 1 1 := ⟨RX1, TX1, 3, rfl, by decide, wt 176 (by decide +kernel) rfl, inX1⟩
theorem fX1_18 : jFl RX1 18 1 2 := ⟨RX1, TX1, 3, rfl, by decide, wt 177 (by decide +kernel) rfl, inX1⟩
theorem fX2_9 : jFl RX2 9 2 0 := ⟨RX2, TX2, 8, rfl, by decide, wt 191 (by decide +kernel) rfl, inX2⟩
theorem fX2_15 : jFl RX2 15 2 1 := ⟨RX2, TX2, 8, rfl, by decide, wt 192 (by decide +kernel) rfl, inX2⟩
theorem fX2_18 : jFl RX2 18 2 2 := ⟨RX2, TX2, 8, rfl, by decide, wt 193 (by decide +kernel) rfl, inX2⟩
theorem fX2_21 : jFl RX2 21 2 3 := ⟨RX2, TX2, 8, rfl, by decide, wt 194 (by decide +kernel) rfl, inX2⟩
theorem fX2_24 : jFl RX2 24 2 4 := ⟨RX2, TX2, 8, rfl, by decide, wt 195 (by decide +kernel) rfl, inX2⟩
theorem fX2_27 : jFl RX2 27 2 5 := ⟨RX2, TX2, 8, rfl, by decide, wt 196 (by decide +kernel) rfl, inX2⟩
theorem fX2_31 : jFl RX2 31 2 6 := ⟨RX2, TX2, 8, rfl, by decide, wt 197 (by decide +kernel) rfl, inX2⟩
theorem fX2_34 : jFl RX2 34 2 7 := ⟨RX2, TX2, 8, rfl, by decide, wt 198 (by decide +kernel) rfl, inX2⟩
theorem fX3_9 : jFl RX3 9 3 0 := ⟨RX3, TX3, 4, rfl, by decide, wt 156 (by decide +kernel) rfl, inX3⟩
theorem fX3_15 : jFl RX3 15 3 1 := ⟨RX3, TX3, 4, rfl, by decide, wt 157 (by decide +kernel) rfl, inX3⟩
theorem fX3_18 : jFl RX3 18 3 2 := ⟨RX3, TX3, 4, rfl, by decide, wt 158 (by decide +kernel) rfl, inX3⟩
theorem fX3_21 : jFl RX3 21 3 3 := ⟨RX3, TX3, 4, rfl, by decide, wt 159 (by decide +kernel) rfl, inX3⟩
theorem fX4_9 : jFl RX4 9 4 0 := ⟨RX4, TX4, 5, rfl, by decide, wt 222 (by decide +kernel) rfl, inX4⟩
theorem fX4_15 : jFl RX4 15 4 1 := ⟨RX4, TX4, 5, rfl, by decide, wt 223 (by decide +kernel) rfl, inX4⟩
theorem fX4_18 : jFl RX4 18 4 2 := ⟨RX4, TX4, 5, rfl, by decide, wt 224 (by decide +kernel) rfl, inX4⟩
theorem fX4_21 : jFl RX4 21 4 3 := ⟨RX4, TX4, 5, rfl, by decide, wt 225 (by decide +kernel) rfl, inX4⟩
theorem fX4_24 : jFl RX4 24 4 4 := ⟨RX4, TX4, 5, rfl, by decide, wt 226 (by decide +kernel) rfl, inX4⟩
theorem fX5_9 : jFl RX5 9 5 0 := ⟨RX5, TX5, 11, rfl, by decide, wt 115 (by decide +kernel) rfl, inX5⟩
theorem fX5_15 : jFl RX5 15 5 1 := ⟨RX5, TX5, 11, rfl, by decide, wt 116 (by decide +kernel) rfl, inX5⟩
theorem fX5_18 : jFl RX5 18 5 2 := ⟨RX5, TX5, 11, rfl, by decide, wt 117 (by decide +kernel) rfl, inX5⟩
theorem fX5_21 : jFl RX5 21 5 3 := ⟨RX5, TX5, 11, rfl, by decide, wt 118 (by decide +kernel) rfl, inX5⟩
theorem fX5_25 : jFl RX5 25 5 4 := ⟨RX5, TX5, 11, rfl, by decide, wt 119 (by decide +kernel) rfl, inX5⟩
theorem fX5_28 : jFl RX5 28 5 5 := ⟨RX5, TX5, 11, rfl, by decide, wt 120 (by decide +kernel) rfl, inX5⟩
theorem fX5_31 : jFl RX5 31 5 6 := ⟨RX5, TX5, 11, rfl, by decide, wt 121 (by decide +kernel) rfl, inX5⟩
theorem fX5_34 : jFl RX5 34 5 7 := ⟨RX5, TX5, 11, rfl, by decide, wt 122 (by decide +kernel) rfl, inX5⟩
theorem fX5_37 : jFl RX5 37 5 8 := ⟨RX5, TX5, 11, rfl, by decide, wt 123 (by decide +kernel) rfl, inX5⟩
theorem fX5_40 : jFl RX5 40 5 9 := ⟨RX5, TX5, 11, rfl, by decide, wt 124 (by decide +kernel) rfl, inX5⟩
theorem fX5_44 : jFl RX5 44 5 10 := ⟨RX5, TX5, 11, rfl, by decide, wt 125 (by decide +kernel) rfl, inX5⟩
theorem fX6_9 : jFl RX6 9 6 0 := ⟨RX6, TX6, 13, rfl, by decide, wt 35 (by decide +kernel) rfl, inX6⟩
theorem fX6_15 : jFl RX6 15 6 1 := ⟨RX6, TX6, 13, rfl, by decide, wt 36 (by decide +kernel) rfl, inX6⟩
theorem fX6_18 : jFl RX6 18 6 2 := ⟨RX6, TX6, 13, rfl, by decide, wt 37 (by decide +kernel) rfl, inX6⟩
theorem fX6_21 : jFl RX6 21 6 3 := ⟨RX6, TX6, 13, rfl, by decide, wt 38 (by decide +kernel) rfl, inX6⟩
theorem fX6_24 : jFl RX6 24 6 4 := ⟨RX6, TX6, 13, rfl, by decide, wt 39 (by decide +kernel) rfl, inX6⟩
theorem fX6_27 : jFl RX6 27 6 5 := ⟨RX6, TX6, 13, rfl, by decide, wt 40 (by decide +kernel) rfl, inX6⟩
theorem fX6_30 : jFl RX6 30 6 6 := ⟨RX6, TX6, 13, rfl, by decide, wt 41 (by decide +kernel) rfl, inX6⟩
theorem fX6_33 : jFl RX6 33 6 9 := ⟨RX6, TX6, 13, rfl, by decide, wt 44 (by decide +kernel) rfl, inX6⟩
theorem fX6_37 : jFl RX6 37 6 10 := ⟨RX6, TX6, 13, rfl, by decide, wt 45 (by decide +kernel) rfl, inX6⟩
theorem fX6_40 : jFl RX6 40 6 7 := ⟨RX6, TX6, 13, rfl, by decide, wt 42 (by decide +kernel) rfl, inX6⟩
theorem fX6_43 : jFl RX6 43 6 8 := ⟨RX6, TX6, 13, rfl, by decide, wt 43 (by decide +kernel) rfl, inX6⟩
theorem fX6_64 : jFl RX6 64 6 11 := ⟨RX6, TX6, 13, rfl, by decide, wt 46 (by decide +kernel) rfl, inX6⟩
theorem fX6_67 : jFl RX6 67 6 12 := ⟨RX6, TX6, 13, rfl, by decide, wt 47 (by decide +kernel) rfl, inX6⟩
theorem fX1_54 : Cond.fieldLink RX1 54 RX1 "SECOND_TONES" "[I" ∈ WT := wt 695 (by decide +kernel) rfl
theorem fX1_58 : Cond.fieldLink RX1 58 RX1 "THIRD_TONES" "[I" ∈ WT := wt 697 (by decide +kernel) rfl
theorem fX7_15 : Cond.fieldLink RX7 15 RX7 "HEIGHTS" "[I" ∈ WT := wt 859 (by decide +kernel) rfl
theorem fX7_24 : Cond.fieldLink RX7 24 RX7 "TURNS_AS_SHARP" "[I" ∈ WT := wt 598 (by decide +kernel) rfl
theorem fX8_7 : Cond.fieldLink RX8 7 RX8 "FALLING" "[I" ∈ WT := wt 546 (by decide +kernel) rfl
theorem nX9_9 : jNe RX9 9 6 13 [.null, .null, .null, .null, .null, .null, .null, .int 0, .int 0, .int 0, .int 0, .int 0, .int 0] := ⟨RX6, TX6, tyX6, rfl, inX6, tyX6_ok, wt 28 (by decide +kernel) rfl, wt 30 (by decide +kernel) rfl, wt 2 (by decide +kernel) rfl, by decide +kernel⟩
theorem nX9_16 : jNe RX9 16 0 5 [.null, .null, .null, .null, .int 0] := ⟨RX0, TX0, tyX0, rfl, inX0, tyX0_ok, wt 76 (by decide +kernel) rfl, wt 77 (by decide +kernel) rfl, wt 3 (by decide +kernel) rfl, by decide +kernel⟩
theorem nX9_23 : jNe RX9 23 5 11 [.null, .null, .null, .null, .null, .null, .null, .null, .null, .int 0, .int 0] := ⟨RX5, TX5, tyX5, rfl, inX5, tyX5_ok, wt 109 (by decide +kernel) rfl, wt 110 (by decide +kernel) rfl, wt 4 (by decide +kernel) rfl, by decide +kernel⟩
theorem nX9_30 : jNe RX9 30 3 4 [.null, .null, .null, .int 0] := ⟨RX3, TX3, tyX3, rfl, inX3, tyX3_ok, wt 150 (by decide +kernel) rfl, wt 151 (by decide +kernel) rfl, wt 5 (by decide +kernel) rfl, by decide +kernel⟩
theorem nX9_37 : jNe RX9 37 1 3 [.int 0, .int 0, .int 0] := ⟨RX1, TX1, tyX1, rfl, inX1, tyX1_ok, wt 169 (by decide +kernel) rfl, wt 170 (by decide +kernel) rfl, wt 6 (by decide +kernel) rfl, by decide +kernel⟩
theorem nX9_44 : jNe RX9 44 2 8 [.null, .null, .null, .null, .null, .null, .null, .int 0] := ⟨RX2, TX2, tyX2, rfl, inX2, tyX2_ok, wt 185 (by decide +kernel) rfl, wt 186 (by decide +kernel) rfl, wt 7 (by decide +kernel) rfl, by decide +kernel⟩
theorem nX9_51 : jNe RX9 51 4 5 [.null, .null, .null, .null, .int 0] := ⟨RX4, TX4, tyX4, rfl, inX4, tyX4_ok, wt 216 (by decide +kernel) rfl, wt 217 (by decide +kernel) rfl, wt 8 (by decide +kernel) rfl, by decide +kernel⟩
theorem nX9_102 : jThr "java/lang/IllegalStateException" 106 102 := ⟨wt 827 (by decide +kernel) rfl, wt 15 (by decide +kernel) rfl, by decide +kernel, by decide +kernel, by decide +kernel⟩
theorem nX9_130 : jThr "java/lang/IllegalArgumentException" 134 130 := ⟨wt 802 (by decide +kernel) rfl, wt 14 (by decide +kernel) rfl, by decide +kernel, by decide +kernel, by decide +kernel⟩
theorem nX9_353 : jThr "java/lang/IndexOutOfBoundsException" 357 353 := ⟨wt 449 (by decide +kernel) rfl, wt 12 (by decide +kernel) rfl, by decide +kernel, by decide +kernel, by decide +kernel⟩
theorem nL_9 : jNe RL 9 7 12 [.null, .null, .null, .null, .null, .null, .null, .int 0, .int 0, .int 0, .int 0, .int 0] := ⟨RX9, TX9, tyX9, rfl, inX9, tyX9_ok, wt 20 (by decide +kernel) rfl, wt 21 (by decide +kernel) rfl, wt 1 (by decide +kernel) rfl, by decide +kernel⟩
theorem acI : Cond.arrayClass .int ∈ WT := wt 75 (by decide +kernel) rfl
theorem acZ : Cond.arrayClass .boolean ∈ WT := wt 149 (by decide +kernel) rfl
theorem vX9_305 : Cond.constantLong RX9 305 (2467) ∈ WT := wt 404 (by decide +kernel) rfl
theorem vX9_332 : Cond.constantLong RX9 332 (31) ∈ WT := wt 416 (by decide +kernel) rfl
theorem vL_7 : Cond.constant RL 7 (2147483647) ∈ WT := wt 782 (by decide +kernel) rfl
theorem vL_8 : Cond.constant RL 8 (790386105) ∈ WT := wt 786 (by decide +kernel) rfl
theorem vJ6_265 : Cond.constant RJ6 265 (1431655765) ∈ WT := wt 684 (by decide +kernel) rfl
theorem vJ6_266 : Cond.constant RJ6 266 (858993459) ∈ WT := wt 685 (by decide +kernel) rfl
theorem vJ6_267 : Cond.constant RJ6 267 (252645135) ∈ WT := wt 686 (by decide +kernel) rfl
