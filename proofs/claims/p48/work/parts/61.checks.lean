section JX9
variable {l : Launch} {G : jG} {M M' : jM} {ck sk pc : Nat} {L L' : List (Nat × Value)} {st rest : List Value} {h : jH} {Post : jO → jH → Prop}
theorem J_callVX {P : jH → Prop} {E : String} {y : MethodName} {As : List Value} {a ci n idx : Nat} {fs : List Value} {T : u_T} {N : Nat} (V : jLk M.own idx y M' n) (V2 : Cond.instanceMethod y ∈ WT ∧ Cond.selects y.cls y y ∈ WT ∧ vwCl[ci]? = some (y.cls, T, N)) (ha : h a = some (.inr (ci, fs)))
    (C : jC l G y M' (.ref a :: As) h (jW (.inr E) P)) (hh : M'.hh = []) (hst : st = As.reverse ++ .ref a :: rest) (hn : As.length = n) (hrm : jRm M M' = true) (hrest : Nat.ble (rest.map fun v => v.category).sum 8 = true) (hd : decode M.cc pc = .ok (.invokevirtual idx, 3))
    (hM : M.hh = []) (hck : M'.room.cells ≤ ck) (hsk : M'.room.slots ≤ sk) (kx : ∀ h', P h' → Post (.inr E) h') : J l G M (jQ G M Post) ck sk pc L st h :=
  j_callV (ck' := 0) (sk' := 0) V V2 ha C hh hst hn hrm hrest hd hck hsk (fun v h' hp => by cases hp.1) (fun E' h' hp => by obtain ⟨e1, e2⟩ := hp; cases e1; exact jX_out hM (kx _ e2))
theorem J_callSX {P : jH → Prop} {E : String} {y : MethodName} {As : List Value} {n idx : Nat} (V : jLk M.own idx y M' n) (V2 : Cond.static y ∈ WT)
    (C : jC l G y M' As h (jW (.inr E) P)) (hh : M'.hh = []) (hst : st = As.reverse ++ rest) (hn : As.length = n) (hrm : jRm M M' = true) (hrest : Nat.ble (rest.map fun v => v.category).sum 8 = true) (hd : decode M.cc pc = .ok (.invokestatic idx, 3))
    (hM : M.hh = []) (hck : M'.room.cells ≤ ck) (hsk : M'.room.slots ≤ sk) (kx : ∀ h', P h' → Post (.inr E) h') : J l G M (jQ G M Post) ck sk pc L st h :=
  j_callS (ck' := 0) (sk' := 0) V V2 C hh hst hn hrm hrest hd hck hsk (fun v h' hp => by cases hp.1) (fun E' h' hp => by obtain ⟨e1, e2⟩ := hp; cases e1; exact jX_out hM (kx _ e2))
end JX9
/-! the same methods where they throw nothing: no room for an exception -/
abbrev z9_addNote : jM := (RX9, cX9_addNote, 6, some .int, [], "addNote", { frames := 7, cells := 0, slots := 0, locals := 115 })
abbrev z9_addRest : jM := (RX9, cX9_addRest, 4, some .int, [], "addRest", { frames := 7, cells := 0, slots := 0, locals := 115 })
abbrev z9_takeLast : jM := (RX9, cX9_takeLast, 3, some .int, [], "takeLast", { frames := 7, cells := 0, slots := 0, locals := 111 })
abbrev z9_setPitch : jM := (RX9, cX9_setPitch, 7, some .int, [], "setPitch", { frames := 8, cells := 0, slots := 0, locals := 134 })
abbrev z9_setMetre : jM := (RX9, cX9_setMetre, 4, some .int, [], "setMetre", { frames := 7, cells := 0, slots := 0, locals := 110 })
abbrev z9_setKey : jM := (RX9, cX9_setKey, 4, some .int, [], "setKey", { frames := 7, cells := 0, slots := 0, locals := 110 })
abbrev z9_setRange : jM := (RX9, cX9_setRange, 5, some .int, [], "setRange", { frames := 7, cells := 0, slots := 0, locals := 111 })
abbrev z9_setShift : jM := (RX9, cX9_setShift, 5, some .int, [], "setShift", { frames := 7, cells := 0, slots := 0, locals := 111 })
abbrev z9_events : jM := (RX9, cX9_events, 2, some .int, [], "events", { frames := 7, cells := 0, slots := 0, locals := 111 })
abbrev z9_heightOf : jM := (RX9, cX9_heightOf, 3, some .int, [], "heightOf", { frames := 8, cells := 0, slots := 0, locals := 134 })
abbrev z9_writtenPlace : jM := (RX9, cX9_writtenPlace, 3, some .int, [], "writtenPlace", { frames := 8, cells := 0, slots := 0, locals := 134 })
abbrev z9_writtenAlter : jM := (RX9, cX9_writtenAlter, 3, some .int, [], "writtenAlter", { frames := 8, cells := 0, slots := 0, locals := 134 })
abbrev z9_beginOfBar : jM := (RX9, cX9_beginOfBar, 2, some .int, [], "beginOfBar", { frames := 7, cells := 0, slots := 0, locals := 110 })
abbrev z9_lengthOfBar : jM := (RX9, cX9_lengthOfBar, 2, some .int, [], "lengthOfBar", { frames := 7, cells := 0, slots := 0, locals := 110 })
abbrev z9_signs : jM := (RX9, cX9_signs, 3, some .int, [], "signs", { frames := 8, cells := 0, slots := 0, locals := 134 })
abbrev z9_eventOf : jM := (RX9, cX9_eventOf, 4, some .int, [], "eventOf", { frames := 9, cells := 0, slots := 0, locals := 158 })
abbrev z9_lengthOf : jM := (RX9, cX9_lengthOf, 4, some .int, [], "lengthOf", { frames := 9, cells := 0, slots := 0, locals := 158 })
abbrev z9_isTied : jM := (RX9, cX9_isTied, 4, some .boolean, [], "isTied", { frames := 9, cells := 0, slots := 0, locals := 158 })
abbrev z9_shown : jM := (RX9, cX9_shown, 4, some .int, [], "shown", { frames := 9, cells := 0, slots := 0, locals := 158 })
abbrev z9_shownWritten : jM := (RX9, cX9_shownWritten, 4, some .int, [], "shownWritten", { frames := 9, cells := 0, slots := 0, locals := 158 })
abbrev z9_beams : jM := (RX9, cX9_beams, 3, some .int, [], "beams", { frames := 8, cells := 0, slots := 0, locals := 134 })
abbrev z9_beamOf : jM := (RX9, cX9_beamOf, 4, some .int, [], "beamOf", { frames := 9, cells := 0, slots := 0, locals := 158 })
abbrev z9_missing : jM := (RX9, cX9_missing, 4, some .int, [], "missing", { frames := 7, cells := 0, slots := 0, locals := 111 })
abbrev z9_tickOf : jM := (RX9, cX9_tickOf, 2, some .int, [], "tickOf", { frames := 7, cells := 0, slots := 0, locals := 132 })
abbrev z9_root : jM := (RX9, cX9_root, 2, some .int, [], "root", { frames := 7, cells := 0, slots := 0, locals := 132 })
abbrev z9_kind : jM := (RX9, cX9_kind, 2, some .int, [], "kind", { frames := 7, cells := 0, slots := 0, locals := 132 })
abbrev z9_inversion : jM := (RX9, cX9_inversion, 2, some .int, [], "inversion", { frames := 7, cells := 0, slots := 0, locals := 132 })
abbrev z9_kindOfFault : jM := (RX9, cX9_kindOfFault, 2, some .int, [], "kindOfFault", { frames := 7, cells := 0, slots := 0, locals := 131 })
abbrev z9_tickOfFault : jM := (RX9, cX9_tickOfFault, 2, some .int, [], "tickOfFault", { frames := 7, cells := 0, slots := 0, locals := 131 })
abbrev z9_partsOfFault : jM := (RX9, cX9_partsOfFault, 2, some .int, [], "partsOfFault", { frames := 7, cells := 0, slots := 0, locals := 131 })
abbrev z9_widthOf : jM := (RX9, cX9_widthOf, 2, some .int, [], "widthOf", { frames := 7, cells := 0, slots := 0, locals := 131 })
abbrev z9_lines : jM := (RX9, cX9_lines, 2, some .int, [], "lines", { frames := 7, cells := 0, slots := 0, locals := 131 })
abbrev z9_lineOf : jM := (RX9, cX9_lineOf, 3, some .int, [], "lineOf", { frames := 7, cells := 0, slots := 0, locals := 131 })
abbrev z9_costOf : jM := (RX9, cX9_costOf, 2, some .int, [], "costOf", { frames := 7, cells := 0, slots := 0, locals := 131 })
abbrev z9_digest : jM := (RX9, cX9_digest, 4, some .long, [], "digest", { frames := 9, cells := 0, slots := 0, locals := 159 })
abbrev z9_mixBar : jM := (RX9, cX9_mixBar, 6, some .long, [], "mixBar", { frames := 8, cells := 0, slots := 0, locals := 134 })
abbrev z9_partAt : jM := (RX9, cX9_partAt, 2, some (.object "ChoraleDesk$Part"), [], "partAt", { frames := 6, cells := 0, slots := 0, locals := 90 })
abbrev z9_partWith : jM := (RX9, cX9_partWith, 4, some (.object "ChoraleDesk$Part"), [], "partWith", { frames := 7, cells := 0, slots := 0, locals := 111 })
abbrev z9_measureAt : jM := (RX9, cX9_measureAt, 4, some (.object "ChoraleDesk$Measure"), [], "measureAt", { frames := 7, cells := 0, slots := 0, locals := 111 })
abbrev z9_measureWith : jM := (RX9, cX9_measureWith, 5, some (.object "ChoraleDesk$Measure"), [], "measureWith", { frames := 8, cells := 0, slots := 0, locals := 134 })
abbrev z9_checkMoment : jM := (RX9, cX9_checkMoment, 2, none, [], "checkMoment", { frames := 6, cells := 0, slots := 0, locals := 111 })
abbrev z9_checkFault : jM := (RX9, cX9_checkFault, 2, none, [], "checkFault", { frames := 6, cells := 0, slots := 0, locals := 90 })
abbrev z9_checkRoom : jM := (RX9, cX9_checkRoom, 3, none, [], "checkRoom", { frames := 6, cells := 0, slots := 0, locals := 90 })
abbrev z9_checkNote : jM := (RX9, cX9_checkNote, 2, none, [], "checkNote", { frames := 6, cells := 0, slots := 0, locals := 90 })
abbrev z9_checkBar : jM := (RX9, cX9_checkBar, 1, none, [], "checkBar", { frames := 6, cells := 0, slots := 0, locals := 90 })
abbrev z9_checkPitch : jM := (RX9, cX9_checkPitch, 2, none, [], "checkPitch", { frames := 6, cells := 0, slots := 0, locals := 90 })
abbrev z9_checkValue : jM := (RX9, cX9_checkValue, 1, none, [], "checkValue", { frames := 6, cells := 0, slots := 0, locals := 90 })
abbrev z9_checkKey : jM := (RX9, cX9_checkKey, 1, none, [], "checkKey", { frames := 6, cells := 0, slots := 0, locals := 90 })
abbrev z9_checkWidth : jM := (RX9, cX9_checkWidth, 1, none, [], "checkWidth", { frames := 6, cells := 0, slots := 0, locals := 90 })
set_option maxRecDepth 100000 in
theorem c0_X9_checkBar {l : Launch} {G : jG} {h : jH} {b : Int}  (hb : rg b) (hg : isBar b) : jC l G yX9_checkBar z9_checkBar [vI b] h (jE oN h) := by
  refine j_body (by decide +kernel) ⟨rfl, rfl⟩ rfl ?_
  refine j_iload_n 0 dX9_checkBar_0 rfl rfl ?_
  refine J_if_lt 10 dX9_checkBar_1 (by decide) (fun c1 => ?_) (fun c1 => ?_) 
  · exact absurd hg (by omega)
  · refine j_iload_n 0 dX9_checkBar_4 rfl rfl ?_
    refine J_bipush dX9_checkBar_5 (by decide) ?_
    refine J_icmp_lt 21 dX9_checkBar_7 (by decide) (fun c7 => ?_) (fun c7 => ?_) 
    · refine j_vret rfl dX9_checkBar_21 ?_
      exact ⟨rfl, rfl⟩
    · exact absurd hg (by omega)
set_option maxRecDepth 100000 in
theorem c_X9_checkBar {l : Launch} {G : jG} {h : jH} {b : Int} (hl0 : l.stackTraces = false)  (hb : rg b) (hg : ¬ (isBar b)) : jC l G yX9_checkBar mX9_checkBar [vI b] h (jE (.inr "java/lang/IndexOutOfBoundsException") h) := by
  refine j_body (by decide +kernel) ⟨rfl, rfl⟩ rfl ?_
  refine j_iload_n 0 dX9_checkBar_0 rfl rfl ?_
  refine J_if_lt 10 dX9_checkBar_1 (by decide) (fun c1 => ?_) (fun c1 => ?_) 
  · refine j_throwSW (k := 1) hl0 rfl nX9_353 rfl rfl dX9_checkBar_10 dX9_checkBar_13 dX9_checkBar_14 dX9_checkBar_17 dX9_checkBar_20 rfl rfl (by decide) (by decide) ?_
    exact ⟨rfl, rfl⟩
  · refine j_iload_n 0 dX9_checkBar_4 rfl rfl ?_
    refine J_bipush dX9_checkBar_5 (by decide) ?_
    refine J_icmp_lt 21 dX9_checkBar_7 (by decide) (fun c7 => ?_) (fun c7 => ?_) 
    · exact absurd (show isBar b by omega) hg
    · refine j_throwSW (k := 1) hl0 rfl nX9_353 rfl rfl dX9_checkBar_10 dX9_checkBar_13 dX9_checkBar_14 dX9_checkBar_17 dX9_checkBar_20 rfl rfl (by decide) (by decide) ?_
      exact ⟨rfl, rfl⟩
set_option maxRecDepth 100000 in
theorem c0_X9_checkKey {l : Launch} {G : jG} {h : jH} {k : Int}  (hb : rg k) (hg : -7 ≤ k ∧ k ≤ 7) : jC l G yX9_checkKey z9_checkKey [vI k] h (jE oN h) := by
  refine j_body (by decide +kernel) ⟨rfl, rfl⟩ rfl ?_
  refine j_iload_n 0 dX9_checkKey_0 rfl rfl ?_
  refine J_bipush dX9_checkKey_1 (by decide) ?_
  refine J_icmp_lt 12 dX9_checkKey_3 (by decide) (fun c3 => ?_) (fun c3 => ?_) 
  · exact absurd hg (by omega)
  · refine j_iload_n 0 dX9_checkKey_6 rfl rfl ?_
    refine J_bipush dX9_checkKey_7 (by decide) ?_
    refine J_icmp_le 23 dX9_checkKey_9 (by decide) (fun c9 => ?_) (fun c9 => ?_) 
    · refine j_vret rfl dX9_checkKey_23 ?_
      exact ⟨rfl, rfl⟩
    · exact absurd hg (by omega)
set_option maxRecDepth 100000 in
theorem c_X9_checkKey {l : Launch} {G : jG} {h : jH} {k : Int} (hl0 : l.stackTraces = false)  (hb : rg k) (hg : ¬ (-7 ≤ k ∧ k ≤ 7)) : jC l G yX9_checkKey mX9_checkKey [vI k] h (jE (.inr "java/lang/IllegalArgumentException") h) := by
  refine j_body (by decide +kernel) ⟨rfl, rfl⟩ rfl ?_
  refine j_iload_n 0 dX9_checkKey_0 rfl rfl ?_
  refine J_bipush dX9_checkKey_1 (by decide) ?_
  refine J_icmp_lt 12 dX9_checkKey_3 (by decide) (fun c3 => ?_) (fun c3 => ?_) 
  · refine j_throwSW (k := 9) hl0 rfl nX9_130 rfl rfl dX9_checkKey_12 dX9_checkKey_15 dX9_checkKey_16 dX9_checkKey_19 dX9_checkKey_22 rfl rfl (by decide) (by decide) ?_
    exact ⟨rfl, rfl⟩
  · refine j_iload_n 0 dX9_checkKey_6 rfl rfl ?_
    refine J_bipush dX9_checkKey_7 (by decide) ?_
    refine J_icmp_le 23 dX9_checkKey_9 (by decide) (fun c9 => ?_) (fun c9 => ?_) 
    · exact absurd (show -7 ≤ k ∧ k ≤ 7 by omega) hg
    · refine j_throwSW (k := 9) hl0 rfl nX9_130 rfl rfl dX9_checkKey_12 dX9_checkKey_15 dX9_checkKey_16 dX9_checkKey_19 dX9_checkKey_22 rfl rfl (by decide) (by decide) ?_
      exact ⟨rfl, rfl⟩
set_option maxRecDepth 100000 in
theorem c0_X9_checkWidth {l : Launch} {G : jG} {h : jH} {w : Int}  (hb : rg w) (hg : 10 ≤ w ∧ w ≤ 400) : jC l G yX9_checkWidth z9_checkWidth [vI w] h (jE oN h) := by
  refine j_body (by decide +kernel) ⟨rfl, rfl⟩ rfl ?_
  refine j_iload_n 0 dX9_checkWidth_0 rfl rfl ?_
  refine J_bipush dX9_checkWidth_1 (by decide) ?_
  refine J_icmp_lt 13 dX9_checkWidth_3 (by decide) (fun c3 => ?_) (fun c3 => ?_) 
  · exact absurd hg (by omega)
  · refine j_iload_n 0 dX9_checkWidth_6 rfl rfl ?_
    refine J_sipush dX9_checkWidth_7 (by decide) ?_
    refine J_icmp_le 24 dX9_checkWidth_10 (by decide) (fun c10 => ?_) (fun c10 => ?_) 
    · refine j_vret rfl dX9_checkWidth_24 ?_
      exact ⟨rfl, rfl⟩
    · exact absurd hg (by omega)
set_option maxRecDepth 100000 in
theorem c_X9_checkWidth {l : Launch} {G : jG} {h : jH} {w : Int} (hl0 : l.stackTraces = false)  (hb : rg w) (hg : ¬ (10 ≤ w ∧ w ≤ 400)) : jC l G yX9_checkWidth mX9_checkWidth [vI w] h (jE (.inr "java/lang/IllegalArgumentException") h) := by
  refine j_body (by decide +kernel) ⟨rfl, rfl⟩ rfl ?_
  refine j_iload_n 0 dX9_checkWidth_0 rfl rfl ?_
  refine J_bipush dX9_checkWidth_1 (by decide) ?_
  refine J_icmp_lt 13 dX9_checkWidth_3 (by decide) (fun c3 => ?_) (fun c3 => ?_) 
  · refine j_throwSW (k := 16) hl0 rfl nX9_130 rfl rfl dX9_checkWidth_13 dX9_checkWidth_16 dX9_checkWidth_17 dX9_checkWidth_20 dX9_checkWidth_23 rfl rfl (by decide) (by decide) ?_
    exact ⟨rfl, rfl⟩
  · refine j_iload_n 0 dX9_checkWidth_6 rfl rfl ?_
    refine J_sipush dX9_checkWidth_7 (by decide) ?_
    refine J_icmp_le 24 dX9_checkWidth_10 (by decide) (fun c10 => ?_) (fun c10 => ?_) 
    · exact absurd (show 10 ≤ w ∧ w ≤ 400 by omega) hg
    · refine j_throwSW (k := 16) hl0 rfl nX9_130 rfl rfl dX9_checkWidth_13 dX9_checkWidth_16 dX9_checkWidth_17 dX9_checkWidth_20 dX9_checkWidth_23 rfl rfl (by decide) (by decide) ?_
      exact ⟨rfl, rfl⟩
set_option maxRecDepth 100000 in
theorem c0_X9_checkPitch {l : Launch} {G : jG} {h : jH} {p x : Int}  (hp : rg p) (hx : rg x) (hg : isPit p x) : jC l G yX9_checkPitch z9_checkPitch [vI p, vI x] h (jE oN h) := by
  refine j_body (by decide +kernel) ⟨rfl, rfl⟩ rfl ?_
  refine j_iload_n 0 dX9_checkPitch_0 rfl rfl ?_
  refine j_iload_n 1 dX9_checkPitch_1 rfl rfl ?_
  refine J_callSZ kX9_393 csX7_isPitch (c_X7_isPitch hp hx) rfl rfl rfl rfl rfl dX9_checkPitch_2 rfl rfl (fun z2 => ?_) (fun z2 => ?_)
  · refine J_if_ne 19 dX9_checkPitch_5 (by decide) (fun c5 => ?_) (fun c5 => absurd c5 (by decide)) 
    refine j_vret rfl dX9_checkPitch_19 ?_
    exact ⟨rfl, rfl⟩
  · refine J_if_ne 19 dX9_checkPitch_5 (by decide) (fun c5 => absurd c5 (by decide)) (fun c5 => ?_) 
    exact absurd hg z2
set_option maxRecDepth 100000 in
theorem c_X9_checkPitch {l : Launch} {G : jG} {h : jH} {p x : Int} (hl0 : l.stackTraces = false)  (hp : rg p) (hx : rg x) (hg : ¬ (isPit p x)) : jC l G yX9_checkPitch mX9_checkPitch [vI p, vI x] h (jE (.inr "java/lang/IllegalArgumentException") h) := by
  refine j_body (by decide +kernel) ⟨rfl, rfl⟩ rfl ?_
  refine j_iload_n 0 dX9_checkPitch_0 rfl rfl ?_
  refine j_iload_n 1 dX9_checkPitch_1 rfl rfl ?_
  refine J_callSZ kX9_393 csX7_isPitch (c_X7_isPitch hp hx) rfl rfl rfl rfl rfl dX9_checkPitch_2 rfl rfl (fun z2 => ?_) (fun z2 => ?_)
  · refine J_if_ne 19 dX9_checkPitch_5 (by decide) (fun c5 => ?_) (fun c5 => absurd c5 (by decide)) 
    exact absurd z2 hg
  · refine J_if_ne 19 dX9_checkPitch_5 (by decide) (fun c5 => absurd c5 (by decide)) (fun c5 => ?_) 
    refine j_throwSW (k := 2) hl0 rfl nX9_130 rfl rfl dX9_checkPitch_8 dX9_checkPitch_11 dX9_checkPitch_12 dX9_checkPitch_15 dX9_checkPitch_18 rfl rfl (by decide) (by decide) ?_
    exact ⟨rfl, rfl⟩
set_option maxRecDepth 100000 in
theorem c0_X9_checkValue {l : Launch} {G : jG} {h : jH} {v : Int}  (hv : rg v) (hg : isVal v) : jC l G yX9_checkValue z9_checkValue [vI v] h (jE oN h) := by
  refine j_body (by decide +kernel) ⟨rfl, rfl⟩ rfl ?_
  refine j_iload_n 0 dX9_checkValue_0 rfl rfl ?_
  refine J_callSZ kX9_399 csX8_isValue (c_X8_isValue hv) rfl rfl rfl rfl rfl dX9_checkValue_1 rfl rfl (fun z1 => ?_) (fun z1 => ?_)
  · refine J_if_ne 18 dX9_checkValue_4 (by decide) (fun c4 => ?_) (fun c4 => absurd c4 (by decide)) 
    refine j_vret rfl dX9_checkValue_18 ?_
    exact ⟨rfl, rfl⟩
  · refine J_if_ne 18 dX9_checkValue_4 (by decide) (fun c4 => absurd c4 (by decide)) (fun c4 => ?_) 
    exact absurd hg z1
set_option maxRecDepth 100000 in
theorem c_X9_checkValue {l : Launch} {G : jG} {h : jH} {v : Int} (hl0 : l.stackTraces = false)  (hv : rg v) (hg : ¬ (isVal v)) : jC l G yX9_checkValue mX9_checkValue [vI v] h (jE (.inr "java/lang/IllegalArgumentException") h) := by
  refine j_body (by decide +kernel) ⟨rfl, rfl⟩ rfl ?_
  refine j_iload_n 0 dX9_checkValue_0 rfl rfl ?_
  refine J_callSZ kX9_399 csX8_isValue (c_X8_isValue hv) rfl rfl rfl rfl rfl dX9_checkValue_1 rfl rfl (fun z1 => ?_) (fun z1 => ?_)
  · refine J_if_ne 18 dX9_checkValue_4 (by decide) (fun c4 => ?_) (fun c4 => absurd c4 (by decide)) 
    exact absurd z1 hg
  · refine J_if_ne 18 dX9_checkValue_4 (by decide) (fun c4 => absurd c4 (by decide)) (fun c4 => ?_) 
    refine j_throwSW (k := 3) hl0 rfl nX9_130 rfl rfl dX9_checkValue_7 dX9_checkValue_10 dX9_checkValue_11 dX9_checkValue_14 dX9_checkValue_17 rfl rfl (by decide) (by decide) ?_
    exact ⟨rfl, rfl⟩
set_option maxRecDepth 100000 in
theorem c0_X9_checkNote {l : Launch} {G : jG} {h : jH} {b : Nat} {q6 : Nat → Nat} {p6 : OS} {e : Int}  (hP : AtX6 G h b q6 p6) (hn : pN p6) (hz : eA p6) (he : rg e) (hg : inP p6 e ∧ p6.2 0 e ≠ 0) : jC l G yX9_checkNote z9_checkNote [.ref b, vI e] h (jE oN h) := by
  refine j_body (by decide +kernel) ⟨rfl, rfl⟩ rfl ?_
  refine j_aload_n 0 dX9_checkNote_0 rfl rfl ?_
  refine j_iload_n 1 dX9_checkNote_1 rfl rfl ?_
  refine J_callVZ kX9_386 cvX6_isNote hP.1 (c_X6_isNote hP hn hz he) rfl rfl rfl rfl rfl dX9_checkNote_2 rfl rfl (fun z2 => ?_) (fun z2 => ?_)
  · refine J_if_ne 19 dX9_checkNote_5 (by decide) (fun c5 => ?_) (fun c5 => absurd c5 (by decide)) 
    refine j_vret rfl dX9_checkNote_19 ?_
    exact ⟨rfl, rfl⟩
  · refine J_if_ne 19 dX9_checkNote_5 (by decide) (fun c5 => absurd c5 (by decide)) (fun c5 => ?_) 
    exact absurd hg z2
set_option maxRecDepth 100000 in
theorem c_X9_checkNote {l : Launch} {G : jG} {h : jH} {b : Nat} {q6 : Nat → Nat} {p6 : OS} {e : Int} (hl0 : l.stackTraces = false)  (hP : AtX6 G h b q6 p6) (hn : pN p6) (hz : eA p6) (he : rg e) (hg : ¬ (inP p6 e ∧ p6.2 0 e ≠ 0)) : jC l G yX9_checkNote mX9_checkNote [.ref b, vI e] h (jE (.inr "java/lang/IllegalStateException") h) := by
  refine j_body (by decide +kernel) ⟨rfl, rfl⟩ rfl ?_
  refine j_aload_n 0 dX9_checkNote_0 rfl rfl ?_
  refine j_iload_n 1 dX9_checkNote_1 rfl rfl ?_
  refine J_callVZ kX9_386 cvX6_isNote hP.1 (c_X6_isNote hP hn hz he) rfl rfl rfl rfl rfl dX9_checkNote_2 rfl rfl (fun z2 => ?_) (fun z2 => ?_)
  · refine J_if_ne 19 dX9_checkNote_5 (by decide) (fun c5 => ?_) (fun c5 => absurd c5 (by decide)) 
    exact absurd z2 hg
  · refine J_if_ne 19 dX9_checkNote_5 (by decide) (fun c5 => absurd c5 (by decide)) (fun c5 => ?_) 
    refine j_throwSW (k := 7) hl0 rfl nX9_102 rfl rfl dX9_checkNote_8 dX9_checkNote_11 dX9_checkNote_12 dX9_checkNote_15 dX9_checkNote_18 rfl rfl (by decide) (by decide) ?_
    exact ⟨rfl, rfl⟩
set_option maxRecDepth 100000 in
theorem c0_X9_partAt {l : Launch} {G : jG} {h : jH} {a : Nat} {d : DA} {s : DS} {Z : Nat → Nat} {k : Int} (hD : Desk G h a d s) (hI : DI s) (hZ : Dz a d Z) (hg : 0 ≤ k ∧ k < 4) : jC l G yX9_partAt z9_partAt [.ref a, vI k] h (jE (.inl (some (.ref (d.pad k.toNat)))) h) := by
  refine j_body (by decide +kernel) ⟨rfl, rfl⟩ rfl ?_
  obtain ⟨F, hpa, hF4⟩ := hD.2.1.1
  refine j_iload_n 1 dX9_partAt_0 rfl rfl ?_
  refine J_if_lt 13 dX9_partAt_1 (by decide) (fun c1 => absurd c1 (by omega)) (fun c1 => ?_) 
  refine j_iload_n 1 dX9_partAt_4 rfl rfl ?_
  refine j_aload_n 0 dX9_partAt_5 rfl rfl ?_
  refine j_get fX9_11 dX9_partAt_6 hD.1 rfl ?_
  refine J_alenq 3 dX9_partAt_9 hpa rfl ?_
  refine J_icmp_lt 24 dX9_partAt_10 (by decide) (fun c10 => ?_) (fun c10 => absurd c10 (by omega)) 
  refine j_aload_n 0 dX9_partAt_24 rfl rfl ?_
  refine j_get fX9_11 dX9_partAt_25 hD.1 rfl ?_
  refine j_iload_n 1 dX9_partAt_28 rfl rfl ?_
  refine J_qald dX9_partAt_29 hpa (hF4 k.toNat (by omega)) ?_ 
  refine j_aret rfl dX9_partAt_30 ?_
  exact ⟨rfl, rfl⟩
set_option maxRecDepth 100000 in
theorem c_X9_partAt {l : Launch} {G : jG} {h : jH} {a : Nat} {d : DA} {s : DS} {Z : Nat → Nat} {k : Int} (hl0 : l.stackTraces = false) (hD : Desk G h a d s) (hI : DI s) (hZ : Dz a d Z) (hk : rg k) (hg : ¬ (0 ≤ k ∧ k < 4)) : jC l G yX9_partAt mX9_partAt [.ref a, vI k] h (jE (.inr "java/lang/IndexOutOfBoundsException") h) := by
  refine j_body (by decide +kernel) ⟨rfl, rfl⟩ rfl ?_
  obtain ⟨F, hpa, hF4⟩ := hD.2.1.1
  refine j_iload_n 1 dX9_partAt_0 rfl rfl ?_
  refine J_if_lt 13 dX9_partAt_1 (by decide) (fun c1 => ?_) (fun c1 => ?_) 
  · refine j_throwSW (k := 0) hl0 rfl nX9_353 rfl rfl dX9_partAt_13 dX9_partAt_16 dX9_partAt_17 dX9_partAt_20 dX9_partAt_23 rfl rfl (by decide) (by decide) ?_
    exact ⟨rfl, rfl⟩
  · refine j_iload_n 1 dX9_partAt_4 rfl rfl ?_
    refine j_aload_n 0 dX9_partAt_5 rfl rfl ?_
    refine j_get fX9_11 dX9_partAt_6 hD.1 rfl ?_
    refine J_alenq 3 dX9_partAt_9 hpa rfl ?_
    refine J_icmp_lt 24 dX9_partAt_10 (by decide) (fun c10 => ?_) (fun c10 => ?_) 
    · exact absurd ⟨by omega, by omega⟩ hg
    · refine j_throwSW (k := 0) hl0 rfl nX9_353 rfl rfl dX9_partAt_13 dX9_partAt_16 dX9_partAt_17 dX9_partAt_20 dX9_partAt_23 rfl rfl (by decide) (by decide) ?_
      exact ⟨rfl, rfl⟩
set_option maxRecDepth 100000 in
theorem c0_X9_partWith {l : Launch} {G : jG} {h : jH} {a : Nat} {d : DA} {s : DS} {Z : Nat → Nat} {k e : Int} (hD : Desk G h a d s) (hI : DI s) (hZ : Dz a d Z) (he : rg e) (hg : (0 ≤ k ∧ k < 4) ∧ inP (s.1 k.toNat) e) : jC l G yX9_partWith z9_partWith [.ref a, vI k, vI e] h (jE (.inl (some (.ref (d.pad k.toNat)))) h) := by
  refine j_body (by decide +kernel) ⟨rfl, rfl⟩ rfl ?_
  have hPs := hI.1.Z
  refine j_aload_n 0 dX9_partWith_0 rfl rfl ?_
  refine j_iload_n 1 dX9_partWith_1 rfl rfl ?_
  refine J_callV1 (show jLk _ _ yX9_partAt z9_partAt _ from kX9_75) cvX9_partAt hD.1 (c0_X9_partAt hD hI hZ hg.1) rfl rfl rfl rfl rfl dX9_partWith_2 rfl rfl ?_
  have hPk := hD.2.1.2 k.toNat (by omega)
  refine j_astore_n 3 (L' := [(3, _), (0, _), (1, _), (2, _)]) dX9_partWith_5 rfl rfl rfl ?_
  refine j_aload_n 3 dX9_partWith_6 rfl rfl ?_
  refine j_iload_n 2 dX9_partWith_7 rfl rfl ?_
  refine J_callVZ kX9_358 cvX6_has hPk.1 (c_X6_has hPk (hPs _ (by omega)).1 he) rfl rfl rfl rfl rfl dX9_partWith_8 rfl rfl (fun z8 => ?_) (fun z8 => ?_)
  · refine J_if_ne 25 dX9_partWith_11 (by decide) (fun c11 => ?_) (fun c11 => absurd c11 (by decide)) 
    refine j_aload_n 3 dX9_partWith_25 rfl rfl ?_
    refine j_aret rfl dX9_partWith_26 ?_
    exact ⟨rfl, rfl⟩
  · refine J_if_ne 25 dX9_partWith_11 (by decide) (fun c11 => absurd c11 (by decide)) (fun c11 => ?_) 
    exact absurd hg.2 z8
set_option maxRecDepth 100000 in
theorem c_X9_partWith {l : Launch} {G : jG} {h : jH} {a : Nat} {d : DA} {s : DS} {Z : Nat → Nat} {k e : Int} (hl0 : l.stackTraces = false) (hD : Desk G h a d s) (hI : DI s) (hZ : Dz a d Z) (hk : rg k) (he : rg e) (hg : ¬ ((0 ≤ k ∧ k < 4) ∧ inP (s.1 k.toNat) e)) : jC l G yX9_partWith mX9_partWith [.ref a, vI k, vI e] h (jE (.inr "java/lang/IndexOutOfBoundsException") h) := by
  refine j_body (by decide +kernel) ⟨rfl, rfl⟩ rfl ?_
  have hPs := hI.1.Z
  refine j_aload_n 0 dX9_partWith_0 rfl rfl ?_
  refine j_iload_n 1 dX9_partWith_1 rfl rfl ?_
  by_cases t2 : 0 ≤ k ∧ k < 4
  · refine J_callV1 (show jLk _ _ yX9_partAt z9_partAt _ from kX9_75) cvX9_partAt hD.1 (c0_X9_partAt hD hI hZ t2) rfl rfl rfl rfl rfl dX9_partWith_2 rfl rfl ?_
    have hPk := hD.2.1.2 k.toNat (by omega)
    refine j_astore_n 3 (L' := [(3, _), (0, _), (1, _), (2, _)]) dX9_partWith_5 rfl rfl rfl ?_
    refine j_aload_n 3 dX9_partWith_6 rfl rfl ?_
    refine j_iload_n 2 dX9_partWith_7 rfl rfl ?_
    refine J_callVZ kX9_358 cvX6_has hPk.1 (c_X6_has hPk (hPs _ (by omega)).1 he) rfl rfl rfl rfl rfl dX9_partWith_8 rfl rfl (fun z8 => ?_) (fun z8 => ?_)
    · refine J_if_ne 25 dX9_partWith_11 (by decide) (fun c11 => ?_) (fun c11 => absurd c11 (by decide)) 
      exact absurd ⟨t2, z8⟩ hg
    · refine J_if_ne 25 dX9_partWith_11 (by decide) (fun c11 => absurd c11 (by decide)) (fun c11 => ?_) 
      refine j_throwSW (k := 6) hl0 rfl nX9_353 rfl rfl dX9_partWith_14 dX9_partWith_17 dX9_partWith_18 dX9_partWith_21 dX9_partWith_24 rfl rfl (by decide) (by decide) ?_
      exact ⟨rfl, rfl⟩
  · refine J_callVX kX9_75 cvX9_partAt hD.1 (c_X9_partAt hl0 hD hI hZ hk t2) rfl rfl rfl rfl rfl dX9_partWith_2 rfl (by decide) (by decide) (fun h9 hp => ?_)
    exact ⟨rfl, hp⟩
