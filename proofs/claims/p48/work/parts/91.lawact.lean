/-! one thing is done: whatever it is, the desk stands with some score -/
section SETS
variable {l : Launch} {G : jG} {h : jH} {a : Nat} {d : DA} {P : Nat → OS} {p0 : OS} {Z : Nat → Nat}
theorem s_addRest {k v : Int} (hl0 : l.stackTraces = false) (hZ : Dz a d Z) (hD : DD G a d P p0 h) (hk : 0 ≤ k ∧ k < 4) (hv : isVal v) : jC l G yX9_addRest mX9_addRest [.ref a, vI k, vI v] h (SetP G a d) := by
  obtain ⟨s, g1, g2, rfl, rfl⟩ := hD
  refine (c_X9_addRest hl0 g1 g2 hZ (by omega) (by have := isVal_rg hv; omega)).imp (fun r h' x => ⟨?_, _, _, x.2.dd⟩)
  rw [x.1]
  rw [if_pos hk, if_pos hv]
  split
  · exact Or.inl ⟨_, rfl⟩
  · exact Or.inr (Or.inr rfl)
theorem s_takeLast {k : Int} (hl0 : l.stackTraces = false) (hZ : Dz a d Z) (hD : DD G a d P p0 h) (hk : 0 ≤ k ∧ k < 4) : jC l G yX9_takeLast mX9_takeLast [.ref a, vI k] h (SetP G a d) := by
  obtain ⟨s, g1, g2, rfl, rfl⟩ := hD
  refine (c_X9_takeLast hl0 g1 g2 hZ (by omega)).imp (fun r h' x => ⟨?_, _, _, x.2.dd⟩)
  rw [x.1]
  rw [if_pos hk]
  split
  · exact Or.inl ⟨_, rfl⟩
  · exact Or.inr (Or.inr rfl)
theorem s_setMetre {b nb nu : Int} (hl0 : l.stackTraces = false) (hZ : Dz a d Z) (hD : DD G a d P p0 h) (hb : isBar b) (h1 : 1 ≤ nb ∧ nb ≤ 12) (h2 : nu = 2 ∨ nu = 4 ∨ nu = 8) : jC l G yX9_setMetre mX9_setMetre [.ref a, vI b, vI nb, vI nu] h (SetP G a d) := by
  obtain ⟨s, g1, g2, rfl, rfl⟩ := hD
  refine (c_X9_setMetre hl0 g1 g2 hZ (by omega) (by omega) (by omega)).imp (fun r h' x => ⟨?_, _, _, x.2.dd⟩)
  rw [x.1]
  rw [if_pos hb, if_pos ⟨h1, h2⟩]
  exact Or.inl ⟨_, rfl⟩
theorem s_setKey {b k : Int} (hl0 : l.stackTraces = false) (hZ : Dz a d Z) (hD : DD G a d P p0 h) (hb : isBar b) (hk : -7 ≤ k ∧ k ≤ 7) : jC l G yX9_setKey mX9_setKey [.ref a, vI b, vI k] h (SetP G a d) := by
  obtain ⟨s, g1, g2, rfl, rfl⟩ := hD
  refine (c_X9_setKey hl0 g1 g2 hZ (by omega) (by omega)).imp (fun r h' x => ⟨?_, _, _, x.2.dd⟩)
  rw [x.1]
  rw [if_pos hb, if_pos hk]
  exact Or.inl ⟨_, rfl⟩
theorem s_setShift {k fi oc : Int} (hl0 : l.stackTraces = false) (hZ : Dz a d Z) (hD : DD G a d P p0 h) (hk : 0 ≤ k ∧ k < 4) (h1 : -6 ≤ fi ∧ fi ≤ 6) (h2 : -2 ≤ oc ∧ oc ≤ 2) : jC l G yX9_setShift mX9_setShift [.ref a, vI k, vI fi, vI oc] h (SetP G a d) := by
  obtain ⟨s, g1, g2, rfl, rfl⟩ := hD
  refine (c_X9_setShift hl0 g1 g2 hZ (by omega) (by omega) (by omega)).imp (fun r h' x => ⟨?_, _, _, x.2.dd⟩)
  rw [x.1]
  rw [if_pos hk, if_pos ⟨h1, h2⟩]
  exact Or.inl ⟨_, rfl⟩
theorem s_setRange {k lo hi : Int} (hl0 : l.stackTraces = false) (hZ : Dz a d Z) (hD : DD G a d P p0 h) (hk : 0 ≤ k ∧ k < 4) (h1 : 1 ≤ lo ∧ lo ≤ 62 ∧ lo ≤ hi ∧ hi ≤ 62) : jC l G yX9_setRange mX9_setRange [.ref a, vI k, vI lo, vI hi] h (SetP G a d) := by
  obtain ⟨s, g1, g2, rfl, rfl⟩ := hD
  refine (c_X9_setRange hl0 g1 g2 hZ (by omega) (by omega) (by omega)).imp (fun r h' x => ⟨?_, _, _, x.2.dd⟩)
  rw [x.1]
  rw [if_pos hk, if_pos h1]
  exact Or.inl ⟨_, rfl⟩
theorem s_addNote {k pl al v : Int} (hl0 : l.stackTraces = false) (hZ : Dz a d Z) (hD : DD G a d P p0 h) (hk : 0 ≤ k ∧ k < 4) (hp : isPit pl al) (hv : isVal v) : jC l G yX9_addNote mX9_addNote [.ref a, vI k, vI pl, vI al, vI v] h (SetP G a d) := by
  obtain ⟨s, g1, g2, rfl, rfl⟩ := hD
  refine (c_X9_addNote hl0 g1 g2 hZ (by omega) (by omega) (by omega) (by have := isVal_rg hv; omega)).imp (fun r h' x => ⟨?_, _, _, x.2.dd⟩)
  rw [x.1]
  rw [if_pos hk, if_pos ⟨hp, hv⟩]
  split
  · exact Or.inl ⟨_, rfl⟩
  · exact Or.inr (Or.inr rfl)
theorem s_setPitch {k e pl al : Int} (hl0 : l.stackTraces = false) (hZ : Dz a d Z) (hD : DD G a d P p0 h) (hk : 0 ≤ k ∧ k < 4) (he : rg e) (hp : isPit pl al) : jC l G yX9_setPitch mX9_setPitch [.ref a, vI k, vI e, vI pl, vI al] h (SetP G a d) := by
  obtain ⟨s, g1, g2, rfl, rfl⟩ := hD
  refine (c_X9_setPitch hl0 g1 g2 hZ (by omega) he (by omega) (by omega)).imp (fun r h' x => ⟨?_, _, _, x.2.dd⟩)
  rw [x.1]
  split
  · try rw [if_pos hp]
    split
    · exact Or.inl ⟨_, rfl⟩
    · exact Or.inr (Or.inr rfl)
  · exact Or.inr (Or.inl rfl)
end SETS
theorem J_below {l : Launch} {G : jG} {M : jM} {QF : jF} {ck sk pc : Nat} {L : List (Nat × Value)} {st : List Value} {h : jH} {x n : Int} (hn : 1 ≤ n ∧ n ≤ 1000) (hd : decode M.cc pc = .ok (.invokestatic 34, 3)) (ho : M.own = RL) (hrm : jRm M mL_below = true) (hrest : Nat.ble (st.map fun v => v.category).sum 8 = true)
    (k : ∀ y : Int, 0 ≤ y ∧ y < n → J l G M QF ck sk (pc + 3) L (vI y :: st) h) : J l G M QF ck sk pc L (vI n :: vI x :: st) h :=
  J_callS1 (show jLk M.own 34 yL_below mL_below 2 by rw [ho]; exact kL_34) csL_below (c_L_below hn) rfl rfl rfl hrm hrest hd rfl rfl (k _ (belF_rg x (by omega)))
theorem kx77 : Cond.classLink RL 77 "java/lang/IndexOutOfBoundsException" ∈ WT := wt 790 (by decide +kernel) rfl
theorem kx79 : Cond.classLink RL 79 "java/lang/IllegalStateException" ∈ WT := wt 791 (by decide +kernel) rfl
theorem cxIO : Cond.castable "java/lang/IndexOutOfBoundsException" "java/lang/IndexOutOfBoundsException" ∈ jNg := by decide +kernel
theorem cxIS : Cond.castable "java/lang/IllegalStateException" "java/lang/IllegalStateException" ∈ jNg := by decide +kernel
abbrev actQ (G : jG) (a : Nat) (d : DA) : jF := jQ G zL_act (jW oN (DX G a d))
set_option maxRecDepth 100000 in
/-- what is refused is caught -/
theorem act_x {l : Launch} {G : jG} {a : Nat} {d : DA} {ck sk pc : Nat} {L : List (Nat × Value)} {rest : List Value} {h : jH} {E : String} (he : E = "java/lang/IndexOutOfBoundsException" ∨ E = "java/lang/IllegalStateException") (hX : DX G a d h) (h1 : covers ⟨76, 369, 372, 77⟩ pc = true) (h2 : covers ⟨76, 369, 375, 79⟩ pc = true) : jX l G zL_act (actQ G a d) ck sk pc L rest h E := by
  rcases he with e | e <;> subst e
  · refine jX_catch [] ⟨76, 369, 372, 77⟩ [⟨76, 369, 375, 79⟩] rfl (fun _ h => absurd h List.not_mem_nil) h1 (by decide : (77 : Nat) ≠ 0) kx77 cxIO (fun q => ?_)
    refine j_loc (L' := []) True.intro ?_
    refine j_astore (L' := [(5, _)]) dL_act_372 rfl rfl ?_
    refine j_vret rfl dL_act_374 ?_
    exact ⟨rfl, hX⟩
  · refine jX_catch [⟨76, 369, 372, 77⟩] ⟨76, 369, 375, 79⟩ [] rfl (List.forall_mem_cons.mpr ⟨⟨(by decide : (77 : Nat) ≠ 0), _, kx77, by decide +kernel⟩, fun _ h => absurd h List.not_mem_nil⟩) h2 (by decide : (79 : Nat) ≠ 0) kx79 cxIS (fun q => ?_)
    refine j_loc (L' := []) True.intro ?_
    refine j_astore (L' := [(5, _)]) dL_act_375 rfl rfl ?_
    refine j_vret rfl dL_act_377 ?_
    exact ⟨rfl, hX⟩
set_option maxRecDepth 100000 in
theorem act_0 {l : Launch} {G : jG} {h : jH} {a q : Nat} {d : DA} {P : Nat → OS} {p0 : OS} {Z : Nat → Nat} {F : Int → Int} {x k b : Int} (hl0 : l.stackTraces = false) (hZ : Dz a d Z) (hD : DD G a d P p0 h) (hq : h q = some (ai G 10 F)) (hF : ∀ z : Int, 0 ≤ z → z < 10 → isVal (F z)) (hk : 0 ≤ k ∧ k < 4) (hb : isBar b) : J l G zL_act (actQ G a d) 2 14 124 [(4, vI b), (3, vI k), (2, .ref q), (0, .ref a), (1, vI x)] [] h := by
  refine j_aload_n 0 dL_act_124 rfl rfl ?_
  refine j_iload_n 3 dL_act_125 rfl rfl ?_
  refine j_aload_n 2 dL_act_126 rfl rfl ?_
  refine j_iload_n 1 dL_act_127 rfl rfl ?_
  refine J_bipush dL_act_128 (by decide) ?_
  refine J_ishrA dL_act_130 (fun x130 => ?_)
  refine J_bipush dL_act_131 (by decide) ?_
  refine J_below (by omega) dL_act_133 rfl rfl rfl (fun y133 hy133 => ?_)
  have hv := hF _ hy133.1 hy133.2
  refine J_iald dL_act_136 hq ?_ (by omega)
  refine J_set (ck' := 1) (sk' := 8) kL_42 cvX9_addRest hD (s_addRest hl0 hZ hD hk hv) rfl rfl rfl rfl rfl dL_act_137 (by decide) (by decide) (fun z h hX => ?_) (fun E h he hX => act_x he hX (by decide) (by decide))
  refine j_pop dL_act_140 rfl ?_
  refine j_goto 369 dL_act_141 (by decide) ?_
  refine j_goto 378 dL_act_369 (by decide) ?_
  refine j_vret rfl dL_act_378 ?_
  exact ⟨rfl, hX⟩
set_option maxRecDepth 100000 in
theorem act_1 {l : Launch} {G : jG} {h : jH} {a q : Nat} {d : DA} {P : Nat → OS} {p0 : OS} {Z : Nat → Nat} {F : Int → Int} {x k b : Int} (hl0 : l.stackTraces = false) (hZ : Dz a d Z) (hD : DD G a d P p0 h) (hq : h q = some (ai G 10 F)) (hF : ∀ z : Int, 0 ≤ z → z < 10 → isVal (F z)) (hk : 0 ≤ k ∧ k < 4) (hb : isBar b) : J l G zL_act (actQ G a d) 2 14 144 [(4, vI b), (3, vI k), (2, .ref q), (0, .ref a), (1, vI x)] [] h := by
  refine j_aload_n 0 dL_act_144 rfl rfl ?_
  refine j_iload_n 3 dL_act_145 rfl rfl ?_
  refine J_set (ck' := 1) (sk' := 8) kL_45 cvX9_takeLast hD (s_takeLast hl0 hZ hD hk) rfl rfl rfl rfl rfl dL_act_146 (by decide) (by decide) (fun z h hX => ?_) (fun E h he hX => act_x he hX (by decide) (by decide))
  refine j_pop dL_act_149 rfl ?_
  refine j_goto 369 dL_act_150 (by decide) ?_
  refine j_goto 378 dL_act_369 (by decide) ?_
  refine j_vret rfl dL_act_378 ?_
  exact ⟨rfl, hX⟩
set_option maxRecDepth 100000 in
theorem act_2 {l : Launch} {G : jG} {h : jH} {a q : Nat} {d : DA} {P : Nat → OS} {p0 : OS} {Z : Nat → Nat} {F : Int → Int} {x k b : Int} (hl0 : l.stackTraces = false) (hZ : Dz a d Z) (hD : DD G a d P p0 h) (hq : h q = some (ai G 10 F)) (hF : ∀ z : Int, 0 ≤ z → z < 10 → isVal (F z)) (hk : 0 ≤ k ∧ k < 4) (hb : isBar b) : J l G zL_act (actQ G a d) 2 14 153 [(4, vI b), (3, vI k), (2, .ref q), (0, .ref a), (1, vI x)] [] h := by
  refine j_aload_n 0 dL_act_153 rfl rfl ?_
  refine j_iload dL_act_154 rfl ?_
  refine J_iconst dL_act_156 ?_
  refine j_iload_n 1 dL_act_157 rfl rfl ?_
  refine J_bipush dL_act_158 (by decide) ?_
  refine J_ishrA dL_act_160 (fun x160 => ?_)
  refine J_bipush dL_act_161 (by decide) ?_
  refine J_below (by omega) dL_act_163 rfl rfl rfl (fun y163 hy163 => ?_)
  refine J_iadd dL_act_166 ?_
  refine J_iconst dL_act_167 ?_
  refine j_iload_n 1 dL_act_168 rfl rfl ?_
  refine J_bipush dL_act_169 (by decide) ?_
  refine J_ishrA dL_act_171 (fun x171 => ?_)
  refine J_iconst dL_act_172 ?_
  refine J_below (by omega) dL_act_173 rfl rfl rfl (fun y173 hy173 => ?_)
  refine J_shl2 dL_act_176 (by omega) (fun z2 hz2 => ?_)
  refine J_set (ck' := 1) (sk' := 8) kL_49 cvX9_setMetre hD (s_setMetre hl0 hZ hD hb (by omega) hz2) rfl rfl rfl rfl rfl dL_act_177 (by decide) (by decide) (fun z h hX => ?_) (fun E h he hX => act_x he hX (by decide) (by decide))
  refine j_pop dL_act_180 rfl ?_
  refine j_goto 369 dL_act_181 (by decide) ?_
  refine j_goto 378 dL_act_369 (by decide) ?_
  refine j_vret rfl dL_act_378 ?_
  exact ⟨rfl, hX⟩
set_option maxRecDepth 100000 in
theorem act_3 {l : Launch} {G : jG} {h : jH} {a q : Nat} {d : DA} {P : Nat → OS} {p0 : OS} {Z : Nat → Nat} {F : Int → Int} {x k b : Int} (hl0 : l.stackTraces = false) (hZ : Dz a d Z) (hD : DD G a d P p0 h) (hq : h q = some (ai G 10 F)) (hF : ∀ z : Int, 0 ≤ z → z < 10 → isVal (F z)) (hk : 0 ≤ k ∧ k < 4) (hb : isBar b) : J l G zL_act (actQ G a d) 2 14 184 [(4, vI b), (3, vI k), (2, .ref q), (0, .ref a), (1, vI x)] [] h := by
  refine j_aload_n 0 dL_act_184 rfl rfl ?_
  refine j_iload dL_act_185 rfl ?_
  refine j_iload_n 1 dL_act_187 rfl rfl ?_
  refine J_bipush dL_act_188 (by decide) ?_
  refine J_ishrA dL_act_190 (fun x190 => ?_)
  refine J_bipush dL_act_191 (by decide) ?_
  refine J_below (by omega) dL_act_193 rfl rfl rfl (fun y193 hy193 => ?_)
  refine J_bipush dL_act_196 (by decide) ?_
  refine J_isub dL_act_198 ?_
  refine J_set (ck' := 1) (sk' := 8) kL_53 cvX9_setKey hD (s_setKey hl0 hZ hD hb (by omega)) rfl rfl rfl rfl rfl dL_act_199 (by decide) (by decide) (fun z h hX => ?_) (fun E h he hX => act_x he hX (by decide) (by decide))
  refine j_pop dL_act_202 rfl ?_
  refine j_goto 369 dL_act_203 (by decide) ?_
  refine j_goto 378 dL_act_369 (by decide) ?_
  refine j_vret rfl dL_act_378 ?_
  exact ⟨rfl, hX⟩
set_option maxRecDepth 100000 in
theorem act_4 {l : Launch} {G : jG} {h : jH} {a q : Nat} {d : DA} {P : Nat → OS} {p0 : OS} {Z : Nat → Nat} {F : Int → Int} {x k b : Int} (hl0 : l.stackTraces = false) (hZ : Dz a d Z) (hD : DD G a d P p0 h) (hq : h q = some (ai G 10 F)) (hF : ∀ z : Int, 0 ≤ z → z < 10 → isVal (F z)) (hk : 0 ≤ k ∧ k < 4) (hb : isBar b) : J l G zL_act (actQ G a d) 2 14 206 [(4, vI b), (3, vI k), (2, .ref q), (0, .ref a), (1, vI x)] [] h := by
  refine j_aload_n 0 dL_act_206 rfl rfl ?_
  refine j_iload_n 3 dL_act_207 rfl rfl ?_
  refine j_iload_n 1 dL_act_208 rfl rfl ?_
  refine J_bipush dL_act_209 (by decide) ?_
  refine J_ishrA dL_act_211 (fun x211 => ?_)
  refine J_bipush dL_act_212 (by decide) ?_
  refine J_below (by omega) dL_act_214 rfl rfl rfl (fun y214 hy214 => ?_)
  refine J_bipush dL_act_217 (by decide) ?_
  refine J_isub dL_act_219 ?_
  refine j_iload_n 1 dL_act_220 rfl rfl ?_
  refine J_bipush dL_act_221 (by decide) ?_
  refine J_ishrA dL_act_223 (fun x223 => ?_)
  refine J_iconst dL_act_224 ?_
  refine J_below (by omega) dL_act_225 rfl rfl rfl (fun y225 hy225 => ?_)
  refine J_iconst dL_act_228 ?_
  refine J_isub dL_act_229 ?_
  refine J_set (ck' := 1) (sk' := 8) kL_56 cvX9_setShift hD (s_setShift hl0 hZ hD hk (by omega) (by omega)) rfl rfl rfl rfl rfl dL_act_230 (by decide) (by decide) (fun z h hX => ?_) (fun E h he hX => act_x he hX (by decide) (by decide))
  refine j_pop dL_act_233 rfl ?_
  refine j_goto 369 dL_act_234 (by decide) ?_
  refine j_goto 378 dL_act_369 (by decide) ?_
  refine j_vret rfl dL_act_378 ?_
  exact ⟨rfl, hX⟩
set_option maxRecDepth 100000 in
theorem act_5 {l : Launch} {G : jG} {h : jH} {a q : Nat} {d : DA} {P : Nat → OS} {p0 : OS} {Z : Nat → Nat} {F : Int → Int} {x k b : Int} (hl0 : l.stackTraces = false) (hZ : Dz a d Z) (hD : DD G a d P p0 h) (hq : h q = some (ai G 10 F)) (hF : ∀ z : Int, 0 ≤ z → z < 10 → isVal (F z)) (hk : 0 ≤ k ∧ k < 4) (hb : isBar b) : J l G zL_act (actQ G a d) 2 14 237 [(4, vI b), (3, vI k), (2, .ref q), (0, .ref a), (1, vI x)] [] h := by
  refine j_aload_n 0 dL_act_237 rfl rfl ?_
  refine j_iload_n 3 dL_act_238 rfl rfl ?_
  refine J_iconst dL_act_239 ?_
  refine j_iload_n 1 dL_act_240 rfl rfl ?_
  refine J_bipush dL_act_241 (by decide) ?_
  refine J_ishrA dL_act_243 (fun x243 => ?_)
  refine J_bipush dL_act_244 (by decide) ?_
  refine J_below (by omega) dL_act_246 rfl rfl rfl (fun y246 hy246 => ?_)
  refine J_iadd dL_act_249 ?_
  refine J_bipush dL_act_250 (by decide) ?_
  refine j_iload_n 1 dL_act_252 rfl rfl ?_
  refine J_bipush dL_act_253 (by decide) ?_
  refine J_ishrA dL_act_255 (fun x255 => ?_)
  refine J_bipush dL_act_256 (by decide) ?_
  refine J_below (by omega) dL_act_258 rfl rfl rfl (fun y258 hy258 => ?_)
  refine J_iadd dL_act_261 ?_
  refine J_set (ck' := 1) (sk' := 8) kL_59 cvX9_setRange hD (s_setRange hl0 hZ hD hk (by omega)) rfl rfl rfl rfl rfl dL_act_262 (by decide) (by decide) (fun z h hX => ?_) (fun E h he hX => act_x he hX (by decide) (by decide))
  refine j_pop dL_act_265 rfl ?_
  refine j_goto 369 dL_act_266 (by decide) ?_
  refine j_goto 378 dL_act_369 (by decide) ?_
  refine j_vret rfl dL_act_378 ?_
  exact ⟨rfl, hX⟩
set_option maxRecDepth 100000 in
theorem act_6 {l : Launch} {G : jG} {h : jH} {a q : Nat} {d : DA} {P : Nat → OS} {p0 : OS} {Z : Nat → Nat} {F : Int → Int} {x k b : Int} (hl0 : l.stackTraces = false) (hZ : Dz a d Z) (hD : DD G a d P p0 h) (hq : h q = some (ai G 10 F)) (hF : ∀ z : Int, 0 ≤ z → z < 10 → isVal (F z)) (hk : 0 ≤ k ∧ k < 4) (hb : isBar b) : J l G zL_act (actQ G a d) 2 14 269 [(4, vI b), (3, vI k), (2, .ref q), (0, .ref a), (1, vI x)] [] h := by
  have hn : 0 ≤ (P k.toNat).1 7 ∧ (P k.toNat).1 7 ≤ 512 := (hD.sco.1 k.toNat (by omega)).1
  refine j_aload_n 0 dL_act_269 rfl rfl ?_
  refine j_iload_n 3 dL_act_270 rfl rfl ?_
  refine j_iload_n 1 dL_act_271 rfl rfl ?_
  refine J_bipush dL_act_272 (by decide) ?_
  refine J_ishrA dL_act_274 (fun x274 => ?_)
  refine J_iconst dL_act_275 ?_
  refine j_aload_n 0 dL_act_276 rfl rfl ?_
  refine j_iload_n 3 dL_act_277 rfl rfl ?_
  refine J_rd (ck' := 1) (sk' := 8) kL_62 cvX9_events hD (r_events hl0 hZ hD hk) rfl rfl rfl rfl rfl dL_act_278 (by decide) (by decide) (fun h hD => ?_)
  refine J_mmax kL_65 rfl rfl dL_act_281 ?_ (by omega)
  refine J_below (by omega) dL_act_284 rfl rfl rfl (fun y284 hy284 => ?_)
  refine J_iconst dL_act_287 ?_
  refine j_iload_n 1 dL_act_288 rfl rfl ?_
  refine J_bipush dL_act_289 (by decide) ?_
  refine J_ishrA dL_act_291 (fun x291 => ?_)
  refine J_bipush dL_act_292 (by decide) ?_
  refine J_below (by omega) dL_act_294 rfl rfl rfl (fun y294 hy294 => ?_)
  refine J_iadd dL_act_297 ?_
  refine j_iload_n 1 dL_act_298 rfl rfl ?_
  refine J_bipush dL_act_299 (by decide) ?_
  refine J_ishrA dL_act_301 (fun x301 => ?_)
  refine J_iconst dL_act_302 ?_
  refine J_below (by omega) dL_act_303 rfl rfl rfl (fun y303 hy303 => ?_)
  refine J_iconst dL_act_306 ?_
  refine J_isub dL_act_307 ?_
  refine J_set (ck' := 0) (sk' := 2) kL_70 cvX9_setPitch hD (s_setPitch hl0 hZ hD hk (by omega) (by omega)) rfl rfl rfl rfl rfl dL_act_308 (by decide) (by decide) (fun z h hX => ?_) (fun E h he hX => act_x he hX (by decide) (by decide))
  refine j_pop dL_act_311 rfl ?_
  refine j_goto 369 dL_act_312 (by decide) ?_
  refine j_goto 378 dL_act_369 (by decide) ?_
  refine j_vret rfl dL_act_378 ?_
  exact ⟨rfl, hX⟩
set_option maxRecDepth 100000 in
theorem act_7 {l : Launch} {G : jG} {h : jH} {a q : Nat} {d : DA} {P : Nat → OS} {p0 : OS} {Z : Nat → Nat} {F : Int → Int} {x k b : Int} (hl0 : l.stackTraces = false) (hZ : Dz a d Z) (hD : DD G a d P p0 h) (hq : h q = some (ai G 10 F)) (hF : ∀ z : Int, 0 ≤ z → z < 10 → isVal (F z)) (hk : 0 ≤ k ∧ k < 4) (hb : isBar b) : J l G zL_act (actQ G a d) 2 14 315 [(4, vI b), (3, vI k), (2, .ref q), (0, .ref a), (1, vI x)] [] h := by
  refine j_aload_n 0 dL_act_315 rfl rfl ?_
  refine j_iload_n 3 dL_act_316 rfl rfl ?_
  refine J_bipush dL_act_317 (by decide) ?_
  refine j_iload_n 1 dL_act_319 rfl rfl ?_
  refine J_bipush dL_act_320 (by decide) ?_
  refine J_ishrA dL_act_322 (fun x322 => ?_)
  refine J_bipush dL_act_323 (by decide) ?_
  refine J_below (by omega) dL_act_325 rfl rfl rfl (fun y325 hy325 => ?_)
  refine J_iadd dL_act_328 ?_
  refine j_iload_n 1 dL_act_329 rfl rfl ?_
  refine J_bipush dL_act_330 (by decide) ?_
  refine J_ishrA dL_act_332 (fun x332 => ?_)
  refine J_iconst dL_act_333 ?_
  refine J_below (by omega) dL_act_334 rfl rfl rfl (fun y334 hy334 => ?_)
  have K : ∀ al : Int, -2 ≤ al ∧ al ≤ 2 → J l G zL_act (actQ G a d) 2 14 354 [(4, vI b), (3, vI k), (2, .ref q), (0, .ref a), (1, vI x)] [vI al, vI (20 + y325), vI k, .ref a] h := by
    intro al hal
    refine j_aload_n 2 dL_act_354 rfl rfl ?_
    refine j_iload_n 1 dL_act_355 rfl rfl ?_
    refine J_bipush dL_act_356 (by decide) ?_
    refine J_ishrA dL_act_358 (fun x358 => ?_)
    refine J_bipush dL_act_359 (by decide) ?_
    refine J_below (by omega) dL_act_361 rfl rfl rfl (fun y361 hy361 => ?_)
    have hv := hF _ hy361.1 hy361.2
    refine J_iald dL_act_364 hq ?_ (by omega)
    refine J_set (ck' := 1) (sk' := 8) kL_74 cvX9_addNote hD (s_addNote hl0 hZ hD hk (by omega) hv) rfl rfl rfl rfl rfl dL_act_365 (by decide) (by decide) (fun z h hX => ?_) (fun E h he hX => act_x he hX (by decide) (by decide))
    refine j_pop dL_act_368 rfl ?_
    refine j_goto 378 dL_act_369 (by decide) ?_
    refine j_vret rfl dL_act_378 ?_
    exact ⟨rfl, hX⟩
  refine J_if_ne 353 dL_act_337 (by decide) (fun c337 => ?_) (fun c337 => ?_) (by omega)
  · refine J_iconst dL_act_353 ?_
    exact K 0 (by omega)
  · refine j_iload_n 1 dL_act_340 rfl rfl ?_
    refine J_bipush dL_act_341 (by decide) ?_
    refine J_ishrA dL_act_343 (fun x343 => ?_)
    refine J_iconst dL_act_344 ?_
    refine J_below (by omega) dL_act_345 rfl rfl rfl (fun y345 hy345 => ?_)
    refine J_iconst dL_act_348 ?_
    refine J_isub dL_act_349 ?_
    refine j_goto 354 dL_act_350 (by decide) ?_
    exact K _ (by omega)
set_option maxRecDepth 100000 in
theorem c_L_act {l : Launch} {G : jG} {h : jH} {a : Nat} {d : DA} {P : Nat → OS} {p0 : OS} {Z : Nat → Nat} {x : Int} (hl0 : l.stackTraces = false) (hZ : Dz a d Z) (hD : DD G a d P p0 h) : jC l G yL_act zL_act [.ref a, vI x] h (jW oN (DX G a d)) := by
  have K : ∀ (h2 : jH) (q : Nat) (F : Int → Int), h2 q = some (ai G 10 F) → (∀ z : Int, 0 ≤ z → z < 10 → isVal (F z)) → DD G a d P p0 h2 → J l G zL_act (actQ G a d) 2 14 58 [(2, .ref q), (0, .ref a), (1, vI x)] [] h2 := by
    intro h q F hq hF hD
    refine j_iload_n 1 dL_act_58 rfl rfl ?_
    refine J_iconst dL_act_59 ?_
    refine J_ishrA dL_act_60 (fun x60 => ?_)
    refine J_iconst dL_act_61 ?_
    refine J_below (by omega) dL_act_62 rfl rfl rfl (fun y62 hy62 => ?_)
    refine j_istore_n 3 (L' := [(3, _), (2, _), (0, _), (1, _)]) dL_act_65 rfl rfl rfl ?_
    refine j_iload_n 1 dL_act_66 rfl rfl ?_
    refine J_iconst dL_act_67 ?_
    refine J_ishrA dL_act_68 (fun x68 => ?_)
    refine J_bipush dL_act_69 (by decide) ?_
    refine J_below (by omega) dL_act_71 rfl rfl rfl (fun y71 hy71 => ?_)
    refine j_istore (L' := [(4, _), (3, _), (2, _), (0, _), (1, _)]) dL_act_74 rfl rfl ?_
    refine j_iload_n 1 dL_act_76 rfl rfl ?_
    refine J_bipush dL_act_77 (by decide) ?_
    refine J_below (by omega) dL_act_79 rfl rfl rfl (fun y79 hy79 => ?_)
    refine J_table 315 dL_act_82 (by omega) (by decide) (fun _ => act_7 hl0 hZ hD hq hF hy62 hy71) (fun t ht et => ?_)
    have h7 : t = 0 ∨ t = 1 ∨ t = 2 ∨ t = 3 ∨ t = 4 ∨ t = 5 ∨ t = 6 := by omega
    rcases h7 with e | e | e | e | e | e | e <;> subst e
    · exact ⟨42, 124, rfl, by decide, act_0 hl0 hZ hD hq hF hy62 hy71⟩
    · exact ⟨62, 144, rfl, by decide, act_1 hl0 hZ hD hq hF hy62 hy71⟩
    · exact ⟨71, 153, rfl, by decide, act_2 hl0 hZ hD hq hF hy62 hy71⟩
    · exact ⟨102, 184, rfl, by decide, act_3 hl0 hZ hD hq hF hy62 hy71⟩
    · exact ⟨124, 206, rfl, by decide, act_4 hl0 hZ hD hq hF hy62 hy71⟩
    · exact ⟨155, 237, rfl, by decide, act_5 hl0 hZ hD hq hF hy62 hy71⟩
    · exact ⟨187, 269, rfl, by decide, act_6 hl0 hZ hD hq hF hy62 hy71⟩
  refine j_body (by decide +kernel) ⟨rfl, rfl⟩ rfl ?_
  refine J_bipush dL_act_0 (by decide) ?_
  refine j_newI (ck' := 2) (sk' := 14) 10 acI dL_act_2 (by decide) (by decide) (by decide) (by decide) (by decide) (fun q hq _ => ?_)
  have hne : ∀ c, FtD a d c → c ≠ q := fun c hc z => hD.some hc (by rw [z]; exact hq)
  refine j_dup dL_act_4 rfl ?_
  refine J_iconst dL_act_5 ?_
  refine J_iconst dL_act_6 ?_
  refine J_iast (F := fun _ => 0) dL_act_7 (hset_s _ _ _) ?_ (by omega)
  refine j_dup dL_act_8 rfl ?_
  refine J_iconst dL_act_9 ?_
  refine J_bipush dL_act_10 (by decide) ?_
  refine J_iast dL_act_12 (hset_s _ _ _) ?_ (by omega)
  refine j_dup dL_act_13 rfl ?_
  refine J_iconst dL_act_14 ?_
  refine J_bipush dL_act_15 (by decide) ?_
  refine J_iast dL_act_17 (hset_s _ _ _) ?_ (by omega)
  refine j_dup dL_act_18 rfl ?_
  refine J_iconst dL_act_19 ?_
  refine J_bipush dL_act_20 (by decide) ?_
  refine J_iast dL_act_22 (hset_s _ _ _) ?_ (by omega)
  refine j_dup dL_act_23 rfl ?_
  refine J_iconst dL_act_24 ?_
  refine J_bipush dL_act_25 (by decide) ?_
  refine J_iast dL_act_27 (hset_s _ _ _) ?_ (by omega)
  refine j_dup dL_act_28 rfl ?_
  refine J_iconst dL_act_29 ?_
  refine J_bipush dL_act_30 (by decide) ?_
  refine J_iast dL_act_32 (hset_s _ _ _) ?_ (by omega)
  refine j_dup dL_act_33 rfl ?_
  refine J_bipush dL_act_34 (by decide) ?_
  refine J_bipush dL_act_36 (by decide) ?_
  refine J_iast dL_act_38 (hset_s _ _ _) ?_ (by omega)
  refine j_dup dL_act_39 rfl ?_
  refine J_bipush dL_act_40 (by decide) ?_
  refine J_bipush dL_act_42 (by decide) ?_
  refine J_iast dL_act_44 (hset_s _ _ _) ?_ (by omega)
  refine j_dup dL_act_45 rfl ?_
  refine J_bipush dL_act_46 (by decide) ?_
  refine J_bipush dL_act_48 (by decide) ?_
  refine J_iast dL_act_50 (hset_s _ _ _) ?_ (by omega)
  refine j_dup dL_act_51 rfl ?_
  refine J_bipush dL_act_52 (by decide) ?_
  refine J_bipush dL_act_54 (by decide) ?_
  refine J_iast dL_act_56 (hset_s _ _ _) ?_ (by omega)
  refine j_astore_n 2 (L' := [(2, _), (0, _), (1, _)]) dL_act_57 rfl rfl rfl ?_
  refine K _ q _ (hset_s _ _ _) (fun z z0 z1 => ?_) (hD.keep (fun c hc => by simp only [hset_n (hne c hc)]))
  rcases (by omega : z = 0 ∨ z = 1 ∨ z = 2 ∨ z = 3 ∨ z = 4 ∨ z = 5 ∨ z = 6 ∨ z = 7 ∨ z = 8 ∨ z = 9) with e | e | e | e | e | e | e | e | e | e <;> subst e <;> decide
