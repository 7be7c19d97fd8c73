/-! the law's cases -/
theorem toDN {l : Launch} {G : jG} {y : MethodName} {M : jM} {av : List Value} {h : jH} {a : Nat} {d : DA} {s : DS} {R : DS → Prop} {r : jO} (C : jC l G y M av h (jW r (DP G a d s h R))) : jC l G y M av h (jW r (DN G a d h s.1 (s.2.1 0))) := C.imp (fun _ _ hp => ⟨hp.1, hp.2.dn⟩)
theorem toMN {l : Launch} {G : jG} {y : MethodName} {M : jM} {av : List Value} {h : jH} {a : Nat} {d : MD} {mp P : Nat → OS} {p0 : OS} {Z : Nat → Nat} {r : jO} {t : Int} (hZ : Mz a d Z) (C : jC l G y M av h (jW r (fun h' => ∃ p', Mod G h' a d mp p' ∧ MI d P p0 mp p'.2 ∧ p'.1 0 = t ∧ Fr (FtM a d) h h'))) : jC l G y M av h (jW r (MN G a d h P p0 t)) := C.imp (fun _ _ hp => ⟨hp.1, by obtain ⟨p', g1, g2, g3, g4⟩ := hp.2; exact MN.same g1 hZ g2 g3 g4⟩)
theorem remP_le (p : OS) : (remP p).1 7 ≤ p.1 7 + 1 := by
  unfold remP
  split
  · show p.1 7 - 1 ≤ p.1 7 + 1; omega
  · omega
theorem ifoI {c : Prop} [Decidable c] (x y : Int) : (if c then oI x else oI y) = oI (if c then x else y) := by split <;> rfl
theorem ifb01 {c : Prop} [Decidable c] {x : Int} (h : x = 0 ∨ x = 1) : (if c then x else 0) = 0 ∨ (if c then x else 0) = 1 := by
  split
  · exact h
  · exact Or.inl rfl
theorem ofI0 {x : Int} (h : Int32.ofInt x = 0) : (Int32.ofInt x).toInt64 = Int64.ofInt 0 := by rw [h]; rfl
theorem ofI1 {c D : Prop} [Decidable c] [Decidable D] (h : ¬ Int32.ofInt (if c then bI D else 0) = 0) : (Int32.ofInt (if c then bI D else 0)).toInt64 = Int64.ofInt 1 := by
  by_cases e : c
  · rw [if_pos e] at h ⊢
    by_cases e2 : D
    · rw [show bI D = 1 from if_pos e2]; rfl
    · rw [show bI D = 0 from if_neg e2] at h; exact absurd rfl h
  · rw [if_neg e] at h
    exact absurd rfl h
set_option maxRecDepth 100000 in
theorem lc_0 {l : Launch} {G : jG} {a a2 o b N ck sk : Nat} {xs : Nat → Int32} {i n : Int} {QF : jF} {h : jH} (hl0 : l.stackTraces = false) (hN : N ≤ 2560) (hi : 0 ≤ i ∧ i + 5 ≤ (N : Int)) (hn : n < 512) (H : LI G a a2 o n h) (kk : ∀ h', LI G a a2 o (n + 1) h' → J l G mL_law (QH G b N xs QF) ck sk 3041 [(4, vI i), (3, .ref o), (2, .ref a2), (1, .ref a), (0, .ref b)] [] h') : J l G mL_law (QH G b N xs QF) (ck + 1030) (sk + 4110) 232 [(4, vI i), (3, .ref o), (2, .ref a2), (1, .ref a), (0, .ref b)] [] h := by
  obtain ⟨d, s, Z, d2, mp, p, Z2, f, hD, hZ, hI, hM, hZ2, hMI, hd, ho, hf, hev⟩ := H
  have hO : ∀ {P : Nat → OS} {p0 : OS} {h' : jH}, DN G a d h P p0 h' → h' o = some (aJ G 1 f) := fun hp => by obtain ⟨_, _, _, _, _, g⟩ := hp; exact (g o (fun z => (hd o z).2 rfl)).trans hf
  refine j_aload_n 1 dL_law_232 rfl rfl ?_
  refine j_aload_n 0 dL_law_233 rfl rfl ?_
  refine j_iload dL_law_234 rfl ?_
  refine J_iconst dL_law_236 ?_
  refine J_iadd dL_law_237 ?_
  refine J_sld dL_law_238 (by omega) ?_
  refine j_aload_n 0 dL_law_239 rfl rfl ?_
  refine j_iload dL_law_240 rfl ?_
  refine J_iconst dL_law_242 ?_
  refine J_iadd dL_law_243 ?_
  refine J_sld dL_law_244 (by omega) ?_
  refine j_aload_n 0 dL_law_245 rfl rfl ?_
  refine j_iload dL_law_246 rfl ?_
  refine J_iconst dL_law_248 ?_
  refine J_iadd dL_law_249 ?_
  refine J_sld dL_law_250 (by omega) ?_
  refine j_aload_n 0 dL_law_251 rfl rfl ?_
  refine j_iload dL_law_252 rfl ?_
  refine J_iconst dL_law_254 ?_
  refine J_iadd dL_law_255 ?_
  refine J_sld dL_law_256 (by omega) ?_
  refine j_aload_n 3 dL_law_257 rfl rfl ?_
  refine j_callSH (ck' := ck + 1029) (sk' := sk + 4104) kL_144 ceL_addNote csL_addNote (c_L_addNote (f := f) hD.1 (c_X9_addNote hl0 hD hI hZ (sX_rg _ _) (sX_rg _ _) (sX_rg _ _) (sX_rg _ _)) (hr3 rfl) (fun _ hp => hO hp)) (fun E h' hp => by cases hp.1) rfl rfl rfl rfl rfl dL_law_258 (by show 1 + (ck + 1029) ≤ ck + 1030; omega) (by show 6 + (sk + 4104) ≤ sk + 4110; omega) (fun v9 h2 hp => ?_)
  obtain ⟨ev9, h1, f', hN1, hf', hv', h12⟩ := hp
  cases ev9
  obtain ⟨s', hD', hI', es, ep, hM'⟩ := law_A hM hd ho hN1 h12
  refine j_istore (L' := [(5, _), (4, _), (3, _), (2, _), (1, _), (0, _)]) dL_law_261 rfl rfl ?_
  refine j_aload_n 2 dL_law_263 rfl rfl ?_
  refine j_aload_n 0 dL_law_264 rfl rfl ?_
  refine j_iload dL_law_265 rfl ?_
  refine J_iconst dL_law_267 ?_
  refine J_iadd dL_law_268 ?_
  refine J_sld dL_law_269 (by omega) ?_
  refine j_aload_n 0 dL_law_270 rfl rfl ?_
  refine j_iload dL_law_271 rfl ?_
  refine J_iconst dL_law_273 ?_
  refine J_iadd dL_law_274 ?_
  refine J_sld dL_law_275 (by omega) ?_
  refine j_aload_n 0 dL_law_276 rfl rfl ?_
  refine j_iload dL_law_277 rfl ?_
  refine J_iconst dL_law_279 ?_
  refine J_iadd dL_law_280 ?_
  refine J_sld dL_law_281 (by omega) ?_
  refine j_aload_n 0 dL_law_282 rfl rfl ?_
  refine j_iload dL_law_283 rfl ?_
  refine J_iconst dL_law_285 ?_
  refine J_iadd dL_law_286 ?_
  refine J_sld dL_law_287 (by omega) ?_
  refine j_callV (ck' := ck + 1025) (sk' := sk + 2056) kL_149 cvX11_addNote hM'.1.1 (c_X11_addNote hM' hZ2 hMI (sX_rg _ _) (sX_rg _ _) (sX_rg _ _) (sX_rg _ _) (by omega)) rfl rfl rfl rfl rfl dL_law_288 (by show 4 + (ck + 1025) ≤ ck + 1029; omega) (by show 2048 + (sk + 2056) ≤ sk + 4104; omega) (fun v9 h3 hp => ?_) (fun E h' hp => by cases hp.1)
  obtain ⟨ev9, hN2⟩ := hp
  cases ev9
  obtain ⟨d3, mp3, p3, Z3, hM3, hZ3, hMI3, ht3, hD3, hd3, ho3, hf3⟩ := law_B hD' hd ho hf' es ep hN2
  have hE : evs s'.1 ≤ n + 1 := by rw [es]; exact Int.le_trans (evs_if (fun q => by have := q.1.1; omega) (fun q => by rw [(app_f _ _ _ _).1]; omega)) (by omega)
  refine j_istore (L' := [(6, _), (5, _), (4, _), (3, _), (2, _), (1, _), (0, _)]) dL_law_291 rfl rfl ?_
  refine j_aload_n 2 dL_law_293 rfl rfl ?_
  refine J_callV1 kL_150 cvX11_thrown hM3.1.1 (c_X11_thrown hM3 hZ3 hMI3) rfl rfl rfl rfl rfl dL_law_294 rfl rfl ?_
  rw [ht3]
  refine j_iload dL_law_297 rfl ?_
  refine j_icmp_eq 304 dL_law_299 (by decide) (fun _ => ?_) (fun c => absurd rfl c)
  refine j_iload dL_law_304 rfl ?_
  refine J_if_ne 321 dL_law_306 (by decide) (fun c => ?_) (fun c => ?_) rg_t3
  · refine j_goto 3041 dL_law_321 (by decide) ?_
    refine j_room (ck' := ck) (sk' := sk) (by omega) (by omega) ?_
    exact j_locR (kk _ ⟨d, s', Z, d3, mp3, p3, Z3, _, hD3, hZ, hI', hM3, hZ3, hMI3, hd3, ho3, hf3, hE⟩) (by repeat' (first | exact True.intro | refine And.intro rfl ?_))
  · refine j_aload_n 3 dL_law_309 rfl rfl ?_
    refine J_iconst dL_law_310 ?_
    refine j_lald dL_law_311 hf3 (I_vpin (by decide) (by decide)) ?_
    refine j_iload dL_law_312 rfl ?_
    refine j_i2l dL_law_314 ?_
    refine J_lcmp0 dL_law_315 (hv' c) ?_
    refine J_if_eq 321 dL_law_316 (by decide) (fun _ => ?_) (fun c => absurd rfl c) (by decide)
    refine j_goto 3041 dL_law_321 (by decide) ?_
    refine j_room (ck' := ck) (sk' := sk) (by omega) (by omega) ?_
    exact j_locR (kk _ ⟨d, s', Z, d3, mp3, p3, Z3, _, hD3, hZ, hI', hM3, hZ3, hMI3, hd3, ho3, hf3, hE⟩) (by repeat' (first | exact True.intro | refine And.intro rfl ?_))
set_option maxRecDepth 100000 in
theorem lc_1 {l : Launch} {G : jG} {a a2 o b N ck sk : Nat} {xs : Nat → Int32} {i n : Int} {QF : jF} {h : jH} (hl0 : l.stackTraces = false) (hN : N ≤ 2560) (hi : 0 ≤ i ∧ i + 5 ≤ (N : Int)) (hn : n < 512) (H : LI G a a2 o n h) (kk : ∀ h', LI G a a2 o (n + 1) h' → J l G mL_law (QH G b N xs QF) ck sk 3041 [(4, vI i), (3, .ref o), (2, .ref a2), (1, .ref a), (0, .ref b)] [] h') : J l G mL_law (QH G b N xs QF) (ck + 1030) (sk + 4110) 324 [(4, vI i), (3, .ref o), (2, .ref a2), (1, .ref a), (0, .ref b)] [] h := by
  obtain ⟨d, s, Z, d2, mp, p, Z2, f, hD, hZ, hI, hM, hZ2, hMI, hd, ho, hf, hev⟩ := H
  have hO : ∀ {P : Nat → OS} {p0 : OS} {h' : jH}, DN G a d h P p0 h' → h' o = some (aJ G 1 f) := fun hp => by obtain ⟨_, _, _, _, _, g⟩ := hp; exact (g o (fun z => (hd o z).2 rfl)).trans hf
  refine j_aload_n 1 dL_law_324 rfl rfl ?_
  refine j_aload_n 0 dL_law_325 rfl rfl ?_
  refine j_iload dL_law_326 rfl ?_
  refine J_iconst dL_law_328 ?_
  refine J_iadd dL_law_329 ?_
  refine J_sld dL_law_330 (by omega) ?_
  refine j_aload_n 0 dL_law_331 rfl rfl ?_
  refine j_iload dL_law_332 rfl ?_
  refine J_iconst dL_law_334 ?_
  refine J_iadd dL_law_335 ?_
  refine J_sld dL_law_336 (by omega) ?_
  refine j_aload_n 3 dL_law_337 rfl rfl ?_
  refine j_callSH (ck' := ck + 1029) (sk' := sk + 4104) kL_154 ceL_addRest csL_addRest (c_L_addRest (f := f) hD.1 (c_X9_addRest hl0 hD hI hZ (sX_rg _ _) (sX_rg _ _)) (hr3 rfl) (fun _ hp => hO hp)) (fun E h' hp => by cases hp.1) rfl rfl rfl rfl rfl dL_law_338 (by show 1 + (ck + 1029) ≤ ck + 1030; omega) (by show 6 + (sk + 4104) ≤ sk + 4110; omega) (fun v9 h2 hp => ?_)
  obtain ⟨ev9, h1, f', hN1, hf', hv', h12⟩ := hp
  cases ev9
  obtain ⟨s', hD', hI', es, ep, hM'⟩ := law_A hM hd ho hN1 h12
  refine j_istore (L' := [(5, _), (4, _), (3, _), (2, _), (1, _), (0, _)]) dL_law_341 rfl rfl ?_
  refine j_aload_n 2 dL_law_343 rfl rfl ?_
  refine j_aload_n 0 dL_law_344 rfl rfl ?_
  refine j_iload dL_law_345 rfl ?_
  refine J_iconst dL_law_347 ?_
  refine J_iadd dL_law_348 ?_
  refine J_sld dL_law_349 (by omega) ?_
  refine j_aload_n 0 dL_law_350 rfl rfl ?_
  refine j_iload dL_law_351 rfl ?_
  refine J_iconst dL_law_353 ?_
  refine J_iadd dL_law_354 ?_
  refine J_sld dL_law_355 (by omega) ?_
  refine j_callV (ck' := ck + 1025) (sk' := sk + 2056) kL_157 cvX11_addRest hM'.1.1 (c_X11_addRest hM' hZ2 hMI (sX_rg _ _) (sX_rg _ _) (by omega)) rfl rfl rfl rfl rfl dL_law_356 (by show 4 + (ck + 1025) ≤ ck + 1029; omega) (by show 2048 + (sk + 2056) ≤ sk + 4104; omega) (fun v9 h3 hp => ?_) (fun E h' hp => by cases hp.1)
  obtain ⟨ev9, hN2⟩ := hp
  cases ev9
  obtain ⟨d3, mp3, p3, Z3, hM3, hZ3, hMI3, ht3, hD3, hd3, ho3, hf3⟩ := law_B hD' hd ho hf' es ep hN2
  have hE : evs s'.1 ≤ n + 1 := by rw [es]; exact Int.le_trans (evs_if (fun q => by have := q.1.1; omega) (fun q => by rw [(app_f _ _ _ _).1]; omega)) (by omega)
  refine j_istore (L' := [(6, _), (5, _), (4, _), (3, _), (2, _), (1, _), (0, _)]) dL_law_359 rfl rfl ?_
  refine j_aload_n 2 dL_law_361 rfl rfl ?_
  refine J_callV1 kL_150 cvX11_thrown hM3.1.1 (c_X11_thrown hM3 hZ3 hMI3) rfl rfl rfl rfl rfl dL_law_362 rfl rfl ?_
  rw [ht3]
  refine j_iload dL_law_365 rfl ?_
  refine j_icmp_eq 372 dL_law_367 (by decide) (fun _ => ?_) (fun c => absurd rfl c)
  refine j_iload dL_law_372 rfl ?_
  refine J_if_ne 389 dL_law_374 (by decide) (fun c => ?_) (fun c => ?_) rg_t3
  · refine j_goto 3041 dL_law_389 (by decide) ?_
    refine j_room (ck' := ck) (sk' := sk) (by omega) (by omega) ?_
    exact j_locR (kk _ ⟨d, s', Z, d3, mp3, p3, Z3, _, hD3, hZ, hI', hM3, hZ3, hMI3, hd3, ho3, hf3, hE⟩) (by repeat' (first | exact True.intro | refine And.intro rfl ?_))
  · refine j_aload_n 3 dL_law_377 rfl rfl ?_
    refine J_iconst dL_law_378 ?_
    refine j_lald dL_law_379 hf3 (I_vpin (by decide) (by decide)) ?_
    refine j_iload dL_law_380 rfl ?_
    refine j_i2l dL_law_382 ?_
    refine J_lcmp0 dL_law_383 (hv' c) ?_
    refine J_if_eq 389 dL_law_384 (by decide) (fun _ => ?_) (fun c => absurd rfl c) (by decide)
    refine j_goto 3041 dL_law_389 (by decide) ?_
    refine j_room (ck' := ck) (sk' := sk) (by omega) (by omega) ?_
    exact j_locR (kk _ ⟨d, s', Z, d3, mp3, p3, Z3, _, hD3, hZ, hI', hM3, hZ3, hMI3, hd3, ho3, hf3, hE⟩) (by repeat' (first | exact True.intro | refine And.intro rfl ?_))
set_option maxRecDepth 100000 in
theorem lc_2 {l : Launch} {G : jG} {a a2 o b N ck sk : Nat} {xs : Nat → Int32} {i n : Int} {QF : jF} {h : jH} (hl0 : l.stackTraces = false) (hN : N ≤ 2560) (hi : 0 ≤ i ∧ i + 5 ≤ (N : Int)) (hn : n < 512) (H : LI G a a2 o n h) (kk : ∀ h', LI G a a2 o (n + 1) h' → J l G mL_law (QH G b N xs QF) ck sk 3041 [(4, vI i), (3, .ref o), (2, .ref a2), (1, .ref a), (0, .ref b)] [] h') : J l G mL_law (QH G b N xs QF) (ck + 1030) (sk + 4110) 392 [(4, vI i), (3, .ref o), (2, .ref a2), (1, .ref a), (0, .ref b)] [] h := by
  obtain ⟨d, s, Z, d2, mp, p, Z2, f, hD, hZ, hI, hM, hZ2, hMI, hd, ho, hf, hev⟩ := H
  have hO : ∀ {P : Nat → OS} {p0 : OS} {h' : jH}, DN G a d h P p0 h' → h' o = some (aJ G 1 f) := fun hp => by obtain ⟨_, _, _, _, _, g⟩ := hp; exact (g o (fun z => (hd o z).2 rfl)).trans hf
  refine j_aload_n 1 dL_law_392 rfl rfl ?_
  refine j_aload_n 0 dL_law_393 rfl rfl ?_
  refine j_iload dL_law_394 rfl ?_
  refine J_iconst dL_law_396 ?_
  refine J_iadd dL_law_397 ?_
  refine J_sld dL_law_398 (by omega) ?_
  refine j_aload_n 3 dL_law_399 rfl rfl ?_
  refine j_callSH (ck' := ck + 1029) (sk' := sk + 4104) kL_158 ceL_takeLast csL_takeLast (c_L_takeLast (f := f) hD.1 (c_X9_takeLast hl0 hD hI hZ (sX_rg _ _)) (hr2 rfl) (fun _ hp => hO hp)) (fun E h' hp => by cases hp.1) rfl rfl rfl rfl rfl dL_law_400 (by show 1 + (ck + 1029) ≤ ck + 1030; omega) (by show 6 + (sk + 4104) ≤ sk + 4110; omega) (fun v9 h2 hp => ?_)
  obtain ⟨ev9, h1, f', hN1, hf', hv', h12⟩ := hp
  cases ev9
  obtain ⟨s', hD', hI', es, ep, hM'⟩ := law_A hM hd ho hN1 h12
  refine j_istore (L' := [(5, _), (4, _), (3, _), (2, _), (1, _), (0, _)]) dL_law_403 rfl rfl ?_
  refine j_aload_n 2 dL_law_405 rfl rfl ?_
  refine j_aload_n 0 dL_law_406 rfl rfl ?_
  refine j_iload dL_law_407 rfl ?_
  refine J_iconst dL_law_409 ?_
  refine J_iadd dL_law_410 ?_
  refine J_sld dL_law_411 (by omega) ?_
  refine j_callV (ck' := ck + 1029) (sk' := sk + 4104) kL_161 cvX11_takeLast hM'.1.1 (c_X11_takeLast hM' hZ2 hMI (sX_rg _ _)) rfl rfl rfl rfl rfl dL_law_412 (by show 0 + (ck + 1029) ≤ ck + 1029; omega) (by show 0 + (sk + 4104) ≤ sk + 4104; omega) (fun v9 h3 hp => ?_) (fun E h' hp => by cases hp.1)
  obtain ⟨ev9, hN2⟩ := hp
  cases ev9
  obtain ⟨d3, mp3, p3, Z3, hM3, hZ3, hMI3, ht3, hD3, hd3, ho3, hf3⟩ := law_B hD' hd ho hf' es ep hN2
  have hE : evs s'.1 ≤ n + 1 := by rw [es]; exact Int.le_trans (evs_if (fun q => by have := q.1; omega) (fun q => remP_le _)) (by omega)
  refine j_istore (L' := [(6, _), (5, _), (4, _), (3, _), (2, _), (1, _), (0, _)]) dL_law_415 rfl rfl ?_
  refine j_aload_n 2 dL_law_417 rfl rfl ?_
  refine J_callV1 kL_150 cvX11_thrown hM3.1.1 (c_X11_thrown hM3 hZ3 hMI3) rfl rfl rfl rfl rfl dL_law_418 rfl rfl ?_
  rw [ht3]
  refine j_iload dL_law_421 rfl ?_
  refine j_icmp_eq 428 dL_law_423 (by decide) (fun _ => ?_) (fun c => absurd rfl c)
  refine j_iload dL_law_428 rfl ?_
  refine J_if_ne 445 dL_law_430 (by decide) (fun c => ?_) (fun c => ?_) rg_t2
  · refine j_goto 3041 dL_law_445 (by decide) ?_
    refine j_room (ck' := ck) (sk' := sk) (by omega) (by omega) ?_
    exact j_locR (kk _ ⟨d, s', Z, d3, mp3, p3, Z3, _, hD3, hZ, hI', hM3, hZ3, hMI3, hd3, ho3, hf3, hE⟩) (by repeat' (first | exact True.intro | refine And.intro rfl ?_))
  · refine j_aload_n 3 dL_law_433 rfl rfl ?_
    refine J_iconst dL_law_434 ?_
    refine j_lald dL_law_435 hf3 (I_vpin (by decide) (by decide)) ?_
    refine j_iload dL_law_436 rfl ?_
    refine j_i2l dL_law_438 ?_
    refine J_lcmp0 dL_law_439 (hv' c) ?_
    refine J_if_eq 445 dL_law_440 (by decide) (fun _ => ?_) (fun c => absurd rfl c) (by decide)
    refine j_goto 3041 dL_law_445 (by decide) ?_
    refine j_room (ck' := ck) (sk' := sk) (by omega) (by omega) ?_
    exact j_locR (kk _ ⟨d, s', Z, d3, mp3, p3, Z3, _, hD3, hZ, hI', hM3, hZ3, hMI3, hd3, ho3, hf3, hE⟩) (by repeat' (first | exact True.intro | refine And.intro rfl ?_))
set_option maxRecDepth 100000 in
theorem lc_3 {l : Launch} {G : jG} {a a2 o b N ck sk : Nat} {xs : Nat → Int32} {i n : Int} {QF : jF} {h : jH} (hl0 : l.stackTraces = false) (hN : N ≤ 2560) (hi : 0 ≤ i ∧ i + 5 ≤ (N : Int)) (hn : n < 512) (H : LI G a a2 o n h) (kk : ∀ h', LI G a a2 o (n + 1) h' → J l G mL_law (QH G b N xs QF) ck sk 3041 [(4, vI i), (3, .ref o), (2, .ref a2), (1, .ref a), (0, .ref b)] [] h') : J l G mL_law (QH G b N xs QF) (ck + 1030) (sk + 4110) 448 [(4, vI i), (3, .ref o), (2, .ref a2), (1, .ref a), (0, .ref b)] [] h := by
  obtain ⟨d, s, Z, d2, mp, p, Z2, f, hD, hZ, hI, hM, hZ2, hMI, hd, ho, hf, hev⟩ := H
  have hO : ∀ {P : Nat → OS} {p0 : OS} {h' : jH}, DN G a d h P p0 h' → h' o = some (aJ G 1 f) := fun hp => by obtain ⟨_, _, _, _, _, g⟩ := hp; exact (g o (fun z => (hd o z).2 rfl)).trans hf
  refine j_aload_n 1 dL_law_448 rfl rfl ?_
  refine j_aload_n 0 dL_law_449 rfl rfl ?_
  refine j_iload dL_law_450 rfl ?_
  refine J_iconst dL_law_452 ?_
  refine J_iadd dL_law_453 ?_
  refine J_sld dL_law_454 (by omega) ?_
  refine j_aload_n 0 dL_law_455 rfl rfl ?_
  refine j_iload dL_law_456 rfl ?_
  refine J_iconst dL_law_458 ?_
  refine J_iadd dL_law_459 ?_
  refine J_sld dL_law_460 (by omega) ?_
  refine j_aload_n 0 dL_law_461 rfl rfl ?_
  refine j_iload dL_law_462 rfl ?_
  refine J_iconst dL_law_464 ?_
  refine J_iadd dL_law_465 ?_
  refine J_sld dL_law_466 (by omega) ?_
  refine j_aload_n 0 dL_law_467 rfl rfl ?_
  refine j_iload dL_law_468 rfl ?_
  refine J_iconst dL_law_470 ?_
  refine J_iadd dL_law_471 ?_
  refine J_sld dL_law_472 (by omega) ?_
  refine j_aload_n 3 dL_law_473 rfl rfl ?_
  refine j_callSH (ck' := ck + 1029) (sk' := sk + 4104) kL_162 ceL_setPitch csL_setPitch (c_L_setPitch (f := f) hD.1 (c_X9_setPitch hl0 hD hI hZ (sX_rg _ _) (sX_rg _ _) (sX_rg _ _) (sX_rg _ _)) (hr3 rfl) (fun _ hp => hO hp)) (fun E h' hp => by cases hp.1) rfl rfl rfl rfl rfl dL_law_474 (by show 1 + (ck + 1029) ≤ ck + 1030; omega) (by show 6 + (sk + 4104) ≤ sk + 4110; omega) (fun v9 h2 hp => ?_)
  obtain ⟨ev9, h1, f', hN1, hf', hv', h12⟩ := hp
  cases ev9
  obtain ⟨s', hD', hI', es, ep, hM'⟩ := law_A hM hd ho hN1 h12
  refine j_istore (L' := [(5, _), (4, _), (3, _), (2, _), (1, _), (0, _)]) dL_law_477 rfl rfl ?_
  refine j_aload_n 2 dL_law_479 rfl rfl ?_
  refine j_aload_n 0 dL_law_480 rfl rfl ?_
  refine j_iload dL_law_481 rfl ?_
  refine J_iconst dL_law_483 ?_
  refine J_iadd dL_law_484 ?_
  refine J_sld dL_law_485 (by omega) ?_
  refine j_aload_n 0 dL_law_486 rfl rfl ?_
  refine j_iload dL_law_487 rfl ?_
  refine J_iconst dL_law_489 ?_
  refine J_iadd dL_law_490 ?_
  refine J_sld dL_law_491 (by omega) ?_
  refine j_aload_n 0 dL_law_492 rfl rfl ?_
  refine j_iload dL_law_493 rfl ?_
  refine J_iconst dL_law_495 ?_
  refine J_iadd dL_law_496 ?_
  refine J_sld dL_law_497 (by omega) ?_
  refine j_aload_n 0 dL_law_498 rfl rfl ?_
  refine j_iload dL_law_499 rfl ?_
  refine J_iconst dL_law_501 ?_
  refine J_iadd dL_law_502 ?_
  refine J_sld dL_law_503 (by omega) ?_
  refine j_callV (ck' := ck + 1029) (sk' := sk + 4104) kL_164 cvX11_setPitch hM'.1.1 (c_X11_setPitch hM' hZ2 hMI (sX_rg _ _) (sX_rg _ _) (sX_rg _ _) (sX_rg _ _)) rfl rfl rfl rfl rfl dL_law_504 (by show 0 + (ck + 1029) ≤ ck + 1029; omega) (by show 0 + (sk + 4104) ≤ sk + 4104; omega) (fun v9 h3 hp => ?_) (fun E h' hp => by cases hp.1)
  obtain ⟨ev9, hN2⟩ := hp
  cases ev9
  obtain ⟨d3, mp3, p3, Z3, hM3, hZ3, hMI3, ht3, hD3, hd3, ho3, hf3⟩ := law_B hD' hd ho hf' es ep hN2
  have hE : evs s'.1 ≤ n + 1 := by rw [es]; exact Int.le_trans (evs_if (fun q => by have := q.1.1.1; omega) (fun q => by rw [(giv_f _ _ _ _).1]; omega)) (by omega)
  refine j_istore (L' := [(6, _), (5, _), (4, _), (3, _), (2, _), (1, _), (0, _)]) dL_law_507 rfl rfl ?_
  refine j_aload_n 2 dL_law_509 rfl rfl ?_
  refine J_callV1 kL_150 cvX11_thrown hM3.1.1 (c_X11_thrown hM3 hZ3 hMI3) rfl rfl rfl rfl rfl dL_law_510 rfl rfl ?_
  rw [ht3]
  refine j_iload dL_law_513 rfl ?_
  refine j_icmp_eq 520 dL_law_515 (by decide) (fun _ => ?_) (fun c => absurd rfl c)
  refine j_iload dL_law_520 rfl ?_
  refine J_if_ne 537 dL_law_522 (by decide) (fun c => ?_) (fun c => ?_) rg_t3
  · refine j_goto 3041 dL_law_537 (by decide) ?_
    refine j_room (ck' := ck) (sk' := sk) (by omega) (by omega) ?_
    exact j_locR (kk _ ⟨d, s', Z, d3, mp3, p3, Z3, _, hD3, hZ, hI', hM3, hZ3, hMI3, hd3, ho3, hf3, hE⟩) (by repeat' (first | exact True.intro | refine And.intro rfl ?_))
  · refine j_aload_n 3 dL_law_525 rfl rfl ?_
    refine J_iconst dL_law_526 ?_
    refine j_lald dL_law_527 hf3 (I_vpin (by decide) (by decide)) ?_
    refine j_iload dL_law_528 rfl ?_
    refine j_i2l dL_law_530 ?_
    refine J_lcmp0 dL_law_531 (hv' c) ?_
    refine J_if_eq 537 dL_law_532 (by decide) (fun _ => ?_) (fun c => absurd rfl c) (by decide)
    refine j_goto 3041 dL_law_537 (by decide) ?_
    refine j_room (ck' := ck) (sk' := sk) (by omega) (by omega) ?_
    exact j_locR (kk _ ⟨d, s', Z, d3, mp3, p3, Z3, _, hD3, hZ, hI', hM3, hZ3, hMI3, hd3, ho3, hf3, hE⟩) (by repeat' (first | exact True.intro | refine And.intro rfl ?_))
set_option maxRecDepth 100000 in
theorem lc_4 {l : Launch} {G : jG} {a a2 o b N ck sk : Nat} {xs : Nat → Int32} {i n : Int} {QF : jF} {h : jH} (hl0 : l.stackTraces = false) (hN : N ≤ 2560) (hi : 0 ≤ i ∧ i + 5 ≤ (N : Int)) (hn : n < 512) (H : LI G a a2 o n h) (kk : ∀ h', LI G a a2 o (n + 1) h' → J l G mL_law (QH G b N xs QF) ck sk 3041 [(4, vI i), (3, .ref o), (2, .ref a2), (1, .ref a), (0, .ref b)] [] h') : J l G mL_law (QH G b N xs QF) (ck + 1030) (sk + 4110) 540 [(4, vI i), (3, .ref o), (2, .ref a2), (1, .ref a), (0, .ref b)] [] h := by
  obtain ⟨d, s, Z, d2, mp, p, Z2, f, hD, hZ, hI, hM, hZ2, hMI, hd, ho, hf, hev⟩ := H
  have hO : ∀ {P : Nat → OS} {p0 : OS} {h' : jH}, DN G a d h P p0 h' → h' o = some (aJ G 1 f) := fun hp => by obtain ⟨_, _, _, _, _, g⟩ := hp; exact (g o (fun z => (hd o z).2 rfl)).trans hf
  refine j_aload_n 1 dL_law_540 rfl rfl ?_
  refine j_aload_n 0 dL_law_541 rfl rfl ?_
  refine j_iload dL_law_542 rfl ?_
  refine J_iconst dL_law_544 ?_
  refine J_iadd dL_law_545 ?_
  refine J_sld dL_law_546 (by omega) ?_
  refine j_aload_n 0 dL_law_547 rfl rfl ?_
  refine j_iload dL_law_548 rfl ?_
  refine J_iconst dL_law_550 ?_
  refine J_iadd dL_law_551 ?_
  refine J_sld dL_law_552 (by omega) ?_
  refine j_aload_n 0 dL_law_553 rfl rfl ?_
  refine j_iload dL_law_554 rfl ?_
  refine J_iconst dL_law_556 ?_
  refine J_iadd dL_law_557 ?_
  refine J_sld dL_law_558 (by omega) ?_
  refine j_aload_n 3 dL_law_559 rfl rfl ?_
  refine j_callSH (ck' := ck + 1029) (sk' := sk + 4104) kL_165 ceL_setMetre csL_setMetre (c_L_setMetre (f := f) hD.1 (c_X9_setMetre hl0 hD hI hZ (sX_rg _ _) (sX_rg _ _) (sX_rg _ _)) (hr2 rfl) (fun _ hp => hO hp)) (fun E h' hp => by cases hp.1) rfl rfl rfl rfl rfl dL_law_560 (by show 1 + (ck + 1029) ≤ ck + 1030; omega) (by show 6 + (sk + 4104) ≤ sk + 4110; omega) (fun v9 h2 hp => ?_)
  obtain ⟨ev9, h1, f', hN1, hf', hv', h12⟩ := hp
  cases ev9
  obtain ⟨s', hD', hI', es, ep, hM'⟩ := law_A hM hd ho hN1 h12
  refine j_istore (L' := [(5, _), (4, _), (3, _), (2, _), (1, _), (0, _)]) dL_law_563 rfl rfl ?_
  refine j_aload_n 2 dL_law_565 rfl rfl ?_
  refine j_aload_n 0 dL_law_566 rfl rfl ?_
  refine j_iload dL_law_567 rfl ?_
  refine J_iconst dL_law_569 ?_
  refine J_iadd dL_law_570 ?_
  refine J_sld dL_law_571 (by omega) ?_
  refine j_aload_n 0 dL_law_572 rfl rfl ?_
  refine j_iload dL_law_573 rfl ?_
  refine J_iconst dL_law_575 ?_
  refine J_iadd dL_law_576 ?_
  refine J_sld dL_law_577 (by omega) ?_
  refine j_aload_n 0 dL_law_578 rfl rfl ?_
  refine j_iload dL_law_579 rfl ?_
  refine J_iconst dL_law_581 ?_
  refine J_iadd dL_law_582 ?_
  refine J_sld dL_law_583 (by omega) ?_
  refine j_callV (ck' := ck + 1029) (sk' := sk + 4104) kL_168 cvX11_setMetre hM'.1.1 (c_X11_setMetre hM' hZ2 hMI (sX_rg _ _) (sX_rg _ _) (sX_rg _ _)) rfl rfl rfl rfl rfl dL_law_584 (by show 0 + (ck + 1029) ≤ ck + 1029; omega) (by show 0 + (sk + 4104) ≤ sk + 4104; omega) (fun v9 h3 hp => ?_) (fun E h' hp => by cases hp.1)
  obtain ⟨ev9, hN2⟩ := hp
  cases ev9
  obtain ⟨d3, mp3, p3, Z3, hM3, hZ3, hMI3, ht3, hD3, hd3, ho3, hf3⟩ := law_B hD' hd ho hf' es ep hN2
  have hE : evs s'.1 ≤ n + 1 := by rw [es]; omega
  refine j_istore (L' := [(6, _), (5, _), (4, _), (3, _), (2, _), (1, _), (0, _)]) dL_law_587 rfl rfl ?_
  refine j_aload_n 2 dL_law_589 rfl rfl ?_
  refine J_callV1 kL_150 cvX11_thrown hM3.1.1 (c_X11_thrown hM3 hZ3 hMI3) rfl rfl rfl rfl rfl dL_law_590 rfl rfl ?_
  rw [ht3]
  refine j_iload dL_law_593 rfl ?_
  refine j_icmp_eq 600 dL_law_595 (by decide) (fun _ => ?_) (fun c => absurd rfl c)
  refine j_iload dL_law_600 rfl ?_
  refine J_if_ne 617 dL_law_602 (by decide) (fun c => ?_) (fun c => ?_) rg_t2
  · refine j_goto 3041 dL_law_617 (by decide) ?_
    refine j_room (ck' := ck) (sk' := sk) (by omega) (by omega) ?_
    exact j_locR (kk _ ⟨d, s', Z, d3, mp3, p3, Z3, _, hD3, hZ, hI', hM3, hZ3, hMI3, hd3, ho3, hf3, hE⟩) (by repeat' (first | exact True.intro | refine And.intro rfl ?_))
  · refine j_aload_n 3 dL_law_605 rfl rfl ?_
    refine J_iconst dL_law_606 ?_
    refine j_lald dL_law_607 hf3 (I_vpin (by decide) (by decide)) ?_
    refine j_iload dL_law_608 rfl ?_
    refine j_i2l dL_law_610 ?_
    refine J_lcmp0 dL_law_611 (hv' c) ?_
    refine J_if_eq 617 dL_law_612 (by decide) (fun _ => ?_) (fun c => absurd rfl c) (by decide)
    refine j_goto 3041 dL_law_617 (by decide) ?_
    refine j_room (ck' := ck) (sk' := sk) (by omega) (by omega) ?_
    exact j_locR (kk _ ⟨d, s', Z, d3, mp3, p3, Z3, _, hD3, hZ, hI', hM3, hZ3, hMI3, hd3, ho3, hf3, hE⟩) (by repeat' (first | exact True.intro | refine And.intro rfl ?_))
set_option maxRecDepth 100000 in
theorem lc_5 {l : Launch} {G : jG} {a a2 o b N ck sk : Nat} {xs : Nat → Int32} {i n : Int} {QF : jF} {h : jH} (hl0 : l.stackTraces = false) (hN : N ≤ 2560) (hi : 0 ≤ i ∧ i + 5 ≤ (N : Int)) (hn : n < 512) (H : LI G a a2 o n h) (kk : ∀ h', LI G a a2 o (n + 1) h' → J l G mL_law (QH G b N xs QF) ck sk 3041 [(4, vI i), (3, .ref o), (2, .ref a2), (1, .ref a), (0, .ref b)] [] h') : J l G mL_law (QH G b N xs QF) (ck + 1030) (sk + 4110) 620 [(4, vI i), (3, .ref o), (2, .ref a2), (1, .ref a), (0, .ref b)] [] h := by
  obtain ⟨d, s, Z, d2, mp, p, Z2, f, hD, hZ, hI, hM, hZ2, hMI, hd, ho, hf, hev⟩ := H
  have hO : ∀ {P : Nat → OS} {p0 : OS} {h' : jH}, DN G a d h P p0 h' → h' o = some (aJ G 1 f) := fun hp => by obtain ⟨_, _, _, _, _, g⟩ := hp; exact (g o (fun z => (hd o z).2 rfl)).trans hf
  refine j_aload_n 1 dL_law_620 rfl rfl ?_
  refine j_aload_n 0 dL_law_621 rfl rfl ?_
  refine j_iload dL_law_622 rfl ?_
  refine J_iconst dL_law_624 ?_
  refine J_iadd dL_law_625 ?_
  refine J_sld dL_law_626 (by omega) ?_
  refine j_aload_n 0 dL_law_627 rfl rfl ?_
  refine j_iload dL_law_628 rfl ?_
  refine J_iconst dL_law_630 ?_
  refine J_iadd dL_law_631 ?_
  refine J_sld dL_law_632 (by omega) ?_
  refine j_aload_n 3 dL_law_633 rfl rfl ?_
  refine j_callSH (ck' := ck + 1029) (sk' := sk + 4104) kL_169 ceL_setKey csL_setKey (c_L_setKey (f := f) hD.1 (c_X9_setKey hl0 hD hI hZ (sX_rg _ _) (sX_rg _ _)) (hr2 rfl) (fun _ hp => hO hp)) (fun E h' hp => by cases hp.1) rfl rfl rfl rfl rfl dL_law_634 (by show 1 + (ck + 1029) ≤ ck + 1030; omega) (by show 6 + (sk + 4104) ≤ sk + 4110; omega) (fun v9 h2 hp => ?_)
  obtain ⟨ev9, h1, f', hN1, hf', hv', h12⟩ := hp
  cases ev9
  obtain ⟨s', hD', hI', es, ep, hM'⟩ := law_A hM hd ho hN1 h12
  refine j_istore (L' := [(5, _), (4, _), (3, _), (2, _), (1, _), (0, _)]) dL_law_637 rfl rfl ?_
  refine j_aload_n 2 dL_law_639 rfl rfl ?_
  refine j_aload_n 0 dL_law_640 rfl rfl ?_
  refine j_iload dL_law_641 rfl ?_
  refine J_iconst dL_law_643 ?_
  refine J_iadd dL_law_644 ?_
  refine J_sld dL_law_645 (by omega) ?_
  refine j_aload_n 0 dL_law_646 rfl rfl ?_
  refine j_iload dL_law_647 rfl ?_
  refine J_iconst dL_law_649 ?_
  refine J_iadd dL_law_650 ?_
  refine J_sld dL_law_651 (by omega) ?_
  refine j_callV (ck' := ck + 1029) (sk' := sk + 4104) kL_171 cvX11_setKey hM'.1.1 (c_X11_setKey hM' hZ2 hMI (sX_rg _ _) (sX_rg _ _)) rfl rfl rfl rfl rfl dL_law_652 (by show 0 + (ck + 1029) ≤ ck + 1029; omega) (by show 0 + (sk + 4104) ≤ sk + 4104; omega) (fun v9 h3 hp => ?_) (fun E h' hp => by cases hp.1)
  obtain ⟨ev9, hN2⟩ := hp
  cases ev9
  obtain ⟨d3, mp3, p3, Z3, hM3, hZ3, hMI3, ht3, hD3, hd3, ho3, hf3⟩ := law_B hD' hd ho hf' es ep hN2
  have hE : evs s'.1 ≤ n + 1 := by rw [es]; omega
  refine j_istore (L' := [(6, _), (5, _), (4, _), (3, _), (2, _), (1, _), (0, _)]) dL_law_655 rfl rfl ?_
  refine j_aload_n 2 dL_law_657 rfl rfl ?_
  refine J_callV1 kL_150 cvX11_thrown hM3.1.1 (c_X11_thrown hM3 hZ3 hMI3) rfl rfl rfl rfl rfl dL_law_658 rfl rfl ?_
  rw [ht3]
  refine j_iload dL_law_661 rfl ?_
  refine j_icmp_eq 668 dL_law_663 (by decide) (fun _ => ?_) (fun c => absurd rfl c)
  refine j_iload dL_law_668 rfl ?_
  refine J_if_ne 685 dL_law_670 (by decide) (fun c => ?_) (fun c => ?_) rg_t2
  · refine j_goto 3041 dL_law_685 (by decide) ?_
    refine j_room (ck' := ck) (sk' := sk) (by omega) (by omega) ?_
    exact j_locR (kk _ ⟨d, s', Z, d3, mp3, p3, Z3, _, hD3, hZ, hI', hM3, hZ3, hMI3, hd3, ho3, hf3, hE⟩) (by repeat' (first | exact True.intro | refine And.intro rfl ?_))
  · refine j_aload_n 3 dL_law_673 rfl rfl ?_
    refine J_iconst dL_law_674 ?_
    refine j_lald dL_law_675 hf3 (I_vpin (by decide) (by decide)) ?_
    refine j_iload dL_law_676 rfl ?_
    refine j_i2l dL_law_678 ?_
    refine J_lcmp0 dL_law_679 (hv' c) ?_
    refine J_if_eq 685 dL_law_680 (by decide) (fun _ => ?_) (fun c => absurd rfl c) (by decide)
    refine j_goto 3041 dL_law_685 (by decide) ?_
    refine j_room (ck' := ck) (sk' := sk) (by omega) (by omega) ?_
    exact j_locR (kk _ ⟨d, s', Z, d3, mp3, p3, Z3, _, hD3, hZ, hI', hM3, hZ3, hMI3, hd3, ho3, hf3, hE⟩) (by repeat' (first | exact True.intro | refine And.intro rfl ?_))
set_option maxRecDepth 100000 in
theorem lc_6 {l : Launch} {G : jG} {a a2 o b N ck sk : Nat} {xs : Nat → Int32} {i n : Int} {QF : jF} {h : jH} (hl0 : l.stackTraces = false) (hN : N ≤ 2560) (hi : 0 ≤ i ∧ i + 5 ≤ (N : Int)) (hn : n < 512) (H : LI G a a2 o n h) (kk : ∀ h', LI G a a2 o (n + 1) h' → J l G mL_law (QH G b N xs QF) ck sk 3041 [(4, vI i), (3, .ref o), (2, .ref a2), (1, .ref a), (0, .ref b)] [] h') : J l G mL_law (QH G b N xs QF) (ck + 1030) (sk + 4110) 688 [(4, vI i), (3, .ref o), (2, .ref a2), (1, .ref a), (0, .ref b)] [] h := by
  obtain ⟨d, s, Z, d2, mp, p, Z2, f, hD, hZ, hI, hM, hZ2, hMI, hd, ho, hf, hev⟩ := H
  have hO : ∀ {P : Nat → OS} {p0 : OS} {h' : jH}, DN G a d h P p0 h' → h' o = some (aJ G 1 f) := fun hp => by obtain ⟨_, _, _, _, _, g⟩ := hp; exact (g o (fun z => (hd o z).2 rfl)).trans hf
  refine j_aload_n 1 dL_law_688 rfl rfl ?_
  refine j_aload_n 0 dL_law_689 rfl rfl ?_
  refine j_iload dL_law_690 rfl ?_
  refine J_iconst dL_law_692 ?_
  refine J_iadd dL_law_693 ?_
  refine J_sld dL_law_694 (by omega) ?_
  refine j_aload_n 0 dL_law_695 rfl rfl ?_
  refine j_iload dL_law_696 rfl ?_
  refine J_iconst dL_law_698 ?_
  refine J_iadd dL_law_699 ?_
  refine J_sld dL_law_700 (by omega) ?_
  refine j_aload_n 0 dL_law_701 rfl rfl ?_
  refine j_iload dL_law_702 rfl ?_
  refine J_iconst dL_law_704 ?_
  refine J_iadd dL_law_705 ?_
  refine J_sld dL_law_706 (by omega) ?_
  refine j_aload_n 3 dL_law_707 rfl rfl ?_
  refine j_callSH (ck' := ck + 1029) (sk' := sk + 4104) kL_172 ceL_setRange csL_setRange (c_L_setRange (f := f) hD.1 (c_X9_setRange hl0 hD hI hZ (sX_rg _ _) (sX_rg _ _) (sX_rg _ _)) (hr2 rfl) (fun _ hp => hO hp)) (fun E h' hp => by cases hp.1) rfl rfl rfl rfl rfl dL_law_708 (by show 1 + (ck + 1029) ≤ ck + 1030; omega) (by show 6 + (sk + 4104) ≤ sk + 4110; omega) (fun v9 h2 hp => ?_)
  obtain ⟨ev9, h1, f', hN1, hf', hv', h12⟩ := hp
  cases ev9
  obtain ⟨s', hD', hI', es, ep, hM'⟩ := law_A hM hd ho hN1 h12
  refine j_istore (L' := [(5, _), (4, _), (3, _), (2, _), (1, _), (0, _)]) dL_law_711 rfl rfl ?_
  refine j_aload_n 2 dL_law_713 rfl rfl ?_
  refine j_aload_n 0 dL_law_714 rfl rfl ?_
  refine j_iload dL_law_715 rfl ?_
  refine J_iconst dL_law_717 ?_
  refine J_iadd dL_law_718 ?_
  refine J_sld dL_law_719 (by omega) ?_
  refine j_aload_n 0 dL_law_720 rfl rfl ?_
  refine j_iload dL_law_721 rfl ?_
  refine J_iconst dL_law_723 ?_
  refine J_iadd dL_law_724 ?_
  refine J_sld dL_law_725 (by omega) ?_
  refine j_aload_n 0 dL_law_726 rfl rfl ?_
  refine j_iload dL_law_727 rfl ?_
  refine J_iconst dL_law_729 ?_
  refine J_iadd dL_law_730 ?_
  refine J_sld dL_law_731 (by omega) ?_
  refine j_callV (ck' := ck + 1029) (sk' := sk + 4104) kL_174 cvX11_setRange hM'.1.1 (c_X11_setRange hM' hZ2 hMI (sX_rg _ _) (sX_rg _ _) (sX_rg _ _)) rfl rfl rfl rfl rfl dL_law_732 (by show 0 + (ck + 1029) ≤ ck + 1029; omega) (by show 0 + (sk + 4104) ≤ sk + 4104; omega) (fun v9 h3 hp => ?_) (fun E h' hp => by cases hp.1)
  obtain ⟨ev9, hN2⟩ := hp
  cases ev9
  obtain ⟨d3, mp3, p3, Z3, hM3, hZ3, hMI3, ht3, hD3, hd3, ho3, hf3⟩ := law_B hD' hd ho hf' es ep hN2
  have hE : evs s'.1 ≤ n + 1 := by rw [es]; exact Int.le_trans (evs_if (fun q => by have := q.1; omega) (fun q => by show (s.1 _).1 7 ≤ (s.1 _).1 7 + 1; omega)) (by omega)
  refine j_istore (L' := [(6, _), (5, _), (4, _), (3, _), (2, _), (1, _), (0, _)]) dL_law_735 rfl rfl ?_
  refine j_aload_n 2 dL_law_737 rfl rfl ?_
  refine J_callV1 kL_150 cvX11_thrown hM3.1.1 (c_X11_thrown hM3 hZ3 hMI3) rfl rfl rfl rfl rfl dL_law_738 rfl rfl ?_
  rw [ht3]
  refine j_iload dL_law_741 rfl ?_
  refine j_icmp_eq 748 dL_law_743 (by decide) (fun _ => ?_) (fun c => absurd rfl c)
  refine j_iload dL_law_748 rfl ?_
  refine J_if_ne 765 dL_law_750 (by decide) (fun c => ?_) (fun c => ?_) rg_t2
  · refine j_goto 3041 dL_law_765 (by decide) ?_
    refine j_room (ck' := ck) (sk' := sk) (by omega) (by omega) ?_
    exact j_locR (kk _ ⟨d, s', Z, d3, mp3, p3, Z3, _, hD3, hZ, hI', hM3, hZ3, hMI3, hd3, ho3, hf3, hE⟩) (by repeat' (first | exact True.intro | refine And.intro rfl ?_))
  · refine j_aload_n 3 dL_law_753 rfl rfl ?_
    refine J_iconst dL_law_754 ?_
    refine j_lald dL_law_755 hf3 (I_vpin (by decide) (by decide)) ?_
    refine j_iload dL_law_756 rfl ?_
    refine j_i2l dL_law_758 ?_
    refine J_lcmp0 dL_law_759 (hv' c) ?_
    refine J_if_eq 765 dL_law_760 (by decide) (fun _ => ?_) (fun c => absurd rfl c) (by decide)
    refine j_goto 3041 dL_law_765 (by decide) ?_
    refine j_room (ck' := ck) (sk' := sk) (by omega) (by omega) ?_
    exact j_locR (kk _ ⟨d, s', Z, d3, mp3, p3, Z3, _, hD3, hZ, hI', hM3, hZ3, hMI3, hd3, ho3, hf3, hE⟩) (by repeat' (first | exact True.intro | refine And.intro rfl ?_))
set_option maxRecDepth 100000 in
theorem lc_7 {l : Launch} {G : jG} {a a2 o b N ck sk : Nat} {xs : Nat → Int32} {i n : Int} {QF : jF} {h : jH} (hl0 : l.stackTraces = false) (hN : N ≤ 2560) (hi : 0 ≤ i ∧ i + 5 ≤ (N : Int)) (hn : n < 512) (H : LI G a a2 o n h) (kk : ∀ h', LI G a a2 o (n + 1) h' → J l G mL_law (QH G b N xs QF) ck sk 3041 [(4, vI i), (3, .ref o), (2, .ref a2), (1, .ref a), (0, .ref b)] [] h') : J l G mL_law (QH G b N xs QF) (ck + 1030) (sk + 4110) 768 [(4, vI i), (3, .ref o), (2, .ref a2), (1, .ref a), (0, .ref b)] [] h := by
  obtain ⟨d, s, Z, d2, mp, p, Z2, f, hD, hZ, hI, hM, hZ2, hMI, hd, ho, hf, hev⟩ := H
  have hO : ∀ {P : Nat → OS} {p0 : OS} {h' : jH}, DN G a d h P p0 h' → h' o = some (aJ G 1 f) := fun hp => by obtain ⟨_, _, _, _, _, g⟩ := hp; exact (g o (fun z => (hd o z).2 rfl)).trans hf
  refine j_aload_n 1 dL_law_768 rfl rfl ?_
  refine j_aload_n 0 dL_law_769 rfl rfl ?_
  refine j_iload dL_law_770 rfl ?_
  refine J_iconst dL_law_772 ?_
  refine J_iadd dL_law_773 ?_
  refine J_sld dL_law_774 (by omega) ?_
  refine j_aload_n 0 dL_law_775 rfl rfl ?_
  refine j_iload dL_law_776 rfl ?_
  refine J_iconst dL_law_778 ?_
  refine J_iadd dL_law_779 ?_
  refine J_sld dL_law_780 (by omega) ?_
  refine j_aload_n 0 dL_law_781 rfl rfl ?_
  refine j_iload dL_law_782 rfl ?_
  refine J_iconst dL_law_784 ?_
  refine J_iadd dL_law_785 ?_
  refine J_sld dL_law_786 (by omega) ?_
  refine j_aload_n 3 dL_law_787 rfl rfl ?_
  refine j_callSH (ck' := ck + 1029) (sk' := sk + 4104) kL_175 ceL_setShift csL_setShift (c_L_setShift (f := f) hD.1 (c_X9_setShift hl0 hD hI hZ (sX_rg _ _) (sX_rg _ _) (sX_rg _ _)) (hr2 rfl) (fun _ hp => hO hp)) (fun E h' hp => by cases hp.1) rfl rfl rfl rfl rfl dL_law_788 (by show 1 + (ck + 1029) ≤ ck + 1030; omega) (by show 6 + (sk + 4104) ≤ sk + 4110; omega) (fun v9 h2 hp => ?_)
  obtain ⟨ev9, h1, f', hN1, hf', hv', h12⟩ := hp
  cases ev9
  obtain ⟨s', hD', hI', es, ep, hM'⟩ := law_A hM hd ho hN1 h12
  refine j_istore (L' := [(5, _), (4, _), (3, _), (2, _), (1, _), (0, _)]) dL_law_791 rfl rfl ?_
  refine j_aload_n 2 dL_law_793 rfl rfl ?_
  refine j_aload_n 0 dL_law_794 rfl rfl ?_
  refine j_iload dL_law_795 rfl ?_
  refine J_iconst dL_law_797 ?_
  refine J_iadd dL_law_798 ?_
  refine J_sld dL_law_799 (by omega) ?_
  refine j_aload_n 0 dL_law_800 rfl rfl ?_
  refine j_iload dL_law_801 rfl ?_
  refine J_iconst dL_law_803 ?_
  refine J_iadd dL_law_804 ?_
  refine J_sld dL_law_805 (by omega) ?_
  refine j_aload_n 0 dL_law_806 rfl rfl ?_
  refine j_iload dL_law_807 rfl ?_
  refine J_iconst dL_law_809 ?_
  refine J_iadd dL_law_810 ?_
  refine J_sld dL_law_811 (by omega) ?_
  refine j_callV (ck' := ck + 1029) (sk' := sk + 4104) kL_177 cvX11_setShift hM'.1.1 (c_X11_setShift hM' hZ2 hMI (sX_rg _ _) (sX_rg _ _) (sX_rg _ _)) rfl rfl rfl rfl rfl dL_law_812 (by show 0 + (ck + 1029) ≤ ck + 1029; omega) (by show 0 + (sk + 4104) ≤ sk + 4104; omega) (fun v9 h3 hp => ?_) (fun E h' hp => by cases hp.1)
  obtain ⟨ev9, hN2⟩ := hp
  cases ev9
  obtain ⟨d3, mp3, p3, Z3, hM3, hZ3, hMI3, ht3, hD3, hd3, ho3, hf3⟩ := law_B hD' hd ho hf' es ep hN2
  have hE : evs s'.1 ≤ n + 1 := by rw [es]; exact Int.le_trans (evs_if (fun q => by have := q.1; omega) (fun q => by rw [(wfiN_f _ _).1]; show (s.1 _).1 7 ≤ (s.1 _).1 7 + 1; omega)) (by omega)
  refine j_istore (L' := [(6, _), (5, _), (4, _), (3, _), (2, _), (1, _), (0, _)]) dL_law_815 rfl rfl ?_
  refine j_aload_n 2 dL_law_817 rfl rfl ?_
  refine J_callV1 kL_150 cvX11_thrown hM3.1.1 (c_X11_thrown hM3 hZ3 hMI3) rfl rfl rfl rfl rfl dL_law_818 rfl rfl ?_
  rw [ht3]
  refine j_iload dL_law_821 rfl ?_
  refine j_icmp_eq 828 dL_law_823 (by decide) (fun _ => ?_) (fun c => absurd rfl c)
  refine j_iload dL_law_828 rfl ?_
  refine J_if_ne 845 dL_law_830 (by decide) (fun c => ?_) (fun c => ?_) rg_t2
  · refine j_goto 3041 dL_law_845 (by decide) ?_
    refine j_room (ck' := ck) (sk' := sk) (by omega) (by omega) ?_
    exact j_locR (kk _ ⟨d, s', Z, d3, mp3, p3, Z3, _, hD3, hZ, hI', hM3, hZ3, hMI3, hd3, ho3, hf3, hE⟩) (by repeat' (first | exact True.intro | refine And.intro rfl ?_))
  · refine j_aload_n 3 dL_law_833 rfl rfl ?_
    refine J_iconst dL_law_834 ?_
    refine j_lald dL_law_835 hf3 (I_vpin (by decide) (by decide)) ?_
    refine j_iload dL_law_836 rfl ?_
    refine j_i2l dL_law_838 ?_
    refine J_lcmp0 dL_law_839 (hv' c) ?_
    refine J_if_eq 845 dL_law_840 (by decide) (fun _ => ?_) (fun c => absurd rfl c) (by decide)
    refine j_goto 3041 dL_law_845 (by decide) ?_
    refine j_room (ck' := ck) (sk' := sk) (by omega) (by omega) ?_
    exact j_locR (kk _ ⟨d, s', Z, d3, mp3, p3, Z3, _, hD3, hZ, hI', hM3, hZ3, hMI3, hd3, ho3, hf3, hE⟩) (by repeat' (first | exact True.intro | refine And.intro rfl ?_))
set_option maxRecDepth 100000 in
theorem lc_8 {l : Launch} {G : jG} {a a2 o b N ck sk : Nat} {xs : Nat → Int32} {i n : Int} {QF : jF} {h : jH} (hl0 : l.stackTraces = false) (hN : N ≤ 2560) (hi : 0 ≤ i ∧ i + 5 ≤ (N : Int)) (hn : n < 512) (H : LI G a a2 o n h) (kk : ∀ h', LI G a a2 o (n + 1) h' → J l G mL_law (QH G b N xs QF) ck sk 3041 [(4, vI i), (3, .ref o), (2, .ref a2), (1, .ref a), (0, .ref b)] [] h') : J l G mL_law (QH G b N xs QF) (ck + 1030) (sk + 4110) 848 [(4, vI i), (3, .ref o), (2, .ref a2), (1, .ref a), (0, .ref b)] [] h := by
  obtain ⟨d, s, Z, d2, mp, p, Z2, f, hD, hZ, hI, hM, hZ2, hMI, hd, ho, hf, hev⟩ := H
  have hO : ∀ {P : Nat → OS} {p0 : OS} {h' : jH}, DN G a d h P p0 h' → h' o = some (aJ G 1 f) := fun hp => by obtain ⟨_, _, _, _, _, g⟩ := hp; exact (g o (fun z => (hd o z).2 rfl)).trans hf
  refine j_aload_n 1 dL_law_848 rfl rfl ?_
  refine j_aload_n 0 dL_law_849 rfl rfl ?_
  refine j_iload dL_law_850 rfl ?_
  refine J_iconst dL_law_852 ?_
  refine J_iadd dL_law_853 ?_
  refine J_sld dL_law_854 (by omega) ?_
  refine j_aload_n 3 dL_law_855 rfl rfl ?_
  refine j_callSH (ck' := ck + 1029) (sk' := sk + 4104) kL_178 ceL_events csL_events (c_L_events (f := f) hD.1 (toDN (c_X9_events hl0 hD hI hZ (sX_rg _ _))) (hr1 rfl) (fun _ hp => hO hp)) (fun E h' hp => by cases hp.1) rfl rfl rfl rfl rfl dL_law_856 (by show 1 + (ck + 1029) ≤ ck + 1030; omega) (by show 6 + (sk + 4104) ≤ sk + 4110; omega) (fun v9 h2 hp => ?_)
  obtain ⟨ev9, h1, f', hN1, hf', hv', h12⟩ := hp
  cases ev9
  obtain ⟨s', hD', hI', es, ep, hM'⟩ := law_A hM hd ho hN1 h12
  refine j_istore (L' := [(5, _), (4, _), (3, _), (2, _), (1, _), (0, _)]) dL_law_859 rfl rfl ?_
  refine j_aload_n 2 dL_law_861 rfl rfl ?_
  refine j_aload_n 0 dL_law_862 rfl rfl ?_
  refine j_iload dL_law_863 rfl ?_
  refine J_iconst dL_law_865 ?_
  refine J_iadd dL_law_866 ?_
  refine J_sld dL_law_867 (by omega) ?_
  refine j_callV (ck' := ck + 1029) (sk' := sk + 4104) kL_180 cvX11_events hM'.1.1 (toMN hZ2 (c_X11_events hM' hZ2 hMI (sX_rg _ _))) rfl rfl rfl rfl rfl dL_law_868 (by show 0 + (ck + 1029) ≤ ck + 1029; omega) (by show 0 + (sk + 4104) ≤ sk + 4104; omega) (fun v9 h3 hp => ?_) (fun E h' hp => by cases hp.1)
  obtain ⟨ev9, hN2⟩ := hp
  cases ev9
  obtain ⟨d3, mp3, p3, Z3, hM3, hZ3, hMI3, ht3, hD3, hd3, ho3, hf3⟩ := law_B hD' hd ho hf' es ep hN2
  have hE : evs s'.1 ≤ n + 1 := by rw [es]; omega
  refine j_istore (L' := [(6, _), (5, _), (4, _), (3, _), (2, _), (1, _), (0, _)]) dL_law_871 rfl rfl ?_
  refine j_aload_n 2 dL_law_873 rfl rfl ?_
  refine J_callV1 kL_150 cvX11_thrown hM3.1.1 (c_X11_thrown hM3 hZ3 hMI3) rfl rfl rfl rfl rfl dL_law_874 rfl rfl ?_
  rw [ht3]
  refine j_iload dL_law_877 rfl ?_
  refine j_icmp_eq 884 dL_law_879 (by decide) (fun _ => ?_) (fun c => absurd rfl c)
  refine j_iload dL_law_884 rfl ?_
  refine J_if_ne 901 dL_law_886 (by decide) (fun c => ?_) (fun c => ?_) rg_t1
  · refine j_goto 3041 dL_law_901 (by decide) ?_
    refine j_room (ck' := ck) (sk' := sk) (by omega) (by omega) ?_
    exact j_locR (kk _ ⟨d, s', Z, d3, mp3, p3, Z3, _, hD3, hZ, hI', hM3, hZ3, hMI3, hd3, ho3, hf3, hE⟩) (by repeat' (first | exact True.intro | refine And.intro rfl ?_))
  · refine j_aload_n 3 dL_law_889 rfl rfl ?_
    refine J_iconst dL_law_890 ?_
    refine j_lald dL_law_891 hf3 (I_vpin (by decide) (by decide)) ?_
    refine j_iload dL_law_892 rfl ?_
    refine j_i2l dL_law_894 ?_
    refine J_lcmp0 dL_law_895 (hv' c) ?_
    refine J_if_eq 901 dL_law_896 (by decide) (fun _ => ?_) (fun c => absurd rfl c) (by decide)
    refine j_goto 3041 dL_law_901 (by decide) ?_
    refine j_room (ck' := ck) (sk' := sk) (by omega) (by omega) ?_
    exact j_locR (kk _ ⟨d, s', Z, d3, mp3, p3, Z3, _, hD3, hZ, hI', hM3, hZ3, hMI3, hd3, ho3, hf3, hE⟩) (by repeat' (first | exact True.intro | refine And.intro rfl ?_))
set_option maxRecDepth 100000 in
theorem lc_9 {l : Launch} {G : jG} {a a2 o b N ck sk : Nat} {xs : Nat → Int32} {i n : Int} {QF : jF} {h : jH} (hl0 : l.stackTraces = false) (hN : N ≤ 2560) (hi : 0 ≤ i ∧ i + 5 ≤ (N : Int)) (hn : n < 512) (H : LI G a a2 o n h) (kk : ∀ h', LI G a a2 o (n + 1) h' → J l G mL_law (QH G b N xs QF) ck sk 3041 [(4, vI i), (3, .ref o), (2, .ref a2), (1, .ref a), (0, .ref b)] [] h') : J l G mL_law (QH G b N xs QF) (ck + 1030) (sk + 4110) 904 [(4, vI i), (3, .ref o), (2, .ref a2), (1, .ref a), (0, .ref b)] [] h := by
  obtain ⟨d, s, Z, d2, mp, p, Z2, f, hD, hZ, hI, hM, hZ2, hMI, hd, ho, hf, hev⟩ := H
  have hO : ∀ {P : Nat → OS} {p0 : OS} {h' : jH}, DN G a d h P p0 h' → h' o = some (aJ G 1 f) := fun hp => by obtain ⟨_, _, _, _, _, g⟩ := hp; exact (g o (fun z => (hd o z).2 rfl)).trans hf
  refine j_aload_n 1 dL_law_904 rfl rfl ?_
  refine j_aload_n 0 dL_law_905 rfl rfl ?_
  refine j_iload dL_law_906 rfl ?_
  refine J_iconst dL_law_908 ?_
  refine J_iadd dL_law_909 ?_
  refine J_sld dL_law_910 (by omega) ?_
  refine j_aload_n 0 dL_law_911 rfl rfl ?_
  refine j_iload dL_law_912 rfl ?_
  refine J_iconst dL_law_914 ?_
  refine J_iadd dL_law_915 ?_
  refine J_sld dL_law_916 (by omega) ?_
  refine j_aload_n 3 dL_law_917 rfl rfl ?_
  refine j_callSH (ck' := ck + 1029) (sk' := sk + 4104) kL_181 ceL_beginOf csL_beginOf (c_L_beginOf (f := f) hD.1 (toDN (c_X9_beginOf hl0 hD hI hZ (sX_rg _ _) (sX_rg _ _))) (hr1 rfl) (fun _ hp => hO hp)) (fun E h' hp => by cases hp.1) rfl rfl rfl rfl rfl dL_law_918 (by show 1 + (ck + 1029) ≤ ck + 1030; omega) (by show 6 + (sk + 4104) ≤ sk + 4110; omega) (fun v9 h2 hp => ?_)
  obtain ⟨ev9, h1, f', hN1, hf', hv', h12⟩ := hp
  cases ev9
  obtain ⟨s', hD', hI', es, ep, hM'⟩ := law_A hM hd ho hN1 h12
  refine j_istore (L' := [(5, _), (4, _), (3, _), (2, _), (1, _), (0, _)]) dL_law_921 rfl rfl ?_
  refine j_aload_n 2 dL_law_923 rfl rfl ?_
  refine j_aload_n 0 dL_law_924 rfl rfl ?_
  refine j_iload dL_law_925 rfl ?_
  refine J_iconst dL_law_927 ?_
  refine J_iadd dL_law_928 ?_
  refine J_sld dL_law_929 (by omega) ?_
  refine j_aload_n 0 dL_law_930 rfl rfl ?_
  refine j_iload dL_law_931 rfl ?_
  refine J_iconst dL_law_933 ?_
  refine J_iadd dL_law_934 ?_
  refine J_sld dL_law_935 (by omega) ?_
  refine j_callV (ck' := ck + 1029) (sk' := sk + 4104) kL_183 cvX11_beginOf hM'.1.1 (toMN hZ2 (c_X11_beginOf hM' hZ2 hMI (sX_rg _ _) (sX_rg _ _))) rfl rfl rfl rfl rfl dL_law_936 (by show 0 + (ck + 1029) ≤ ck + 1029; omega) (by show 0 + (sk + 4104) ≤ sk + 4104; omega) (fun v9 h3 hp => ?_) (fun E h' hp => by cases hp.1)
  obtain ⟨ev9, hN2⟩ := hp
  cases ev9
  obtain ⟨d3, mp3, p3, Z3, hM3, hZ3, hMI3, ht3, hD3, hd3, ho3, hf3⟩ := law_B hD' hd ho hf' es ep hN2
  have hE : evs s'.1 ≤ n + 1 := by rw [es]; omega
  refine j_istore (L' := [(6, _), (5, _), (4, _), (3, _), (2, _), (1, _), (0, _)]) dL_law_939 rfl rfl ?_
  refine j_aload_n 2 dL_law_941 rfl rfl ?_
  refine J_callV1 kL_150 cvX11_thrown hM3.1.1 (c_X11_thrown hM3 hZ3 hMI3) rfl rfl rfl rfl rfl dL_law_942 rfl rfl ?_
  rw [ht3]
  refine j_iload dL_law_945 rfl ?_
  refine j_icmp_eq 952 dL_law_947 (by decide) (fun _ => ?_) (fun c => absurd rfl c)
  refine j_iload dL_law_952 rfl ?_
  refine J_if_ne 969 dL_law_954 (by decide) (fun c => ?_) (fun c => ?_) rg_t1
  · refine j_goto 3041 dL_law_969 (by decide) ?_
    refine j_room (ck' := ck) (sk' := sk) (by omega) (by omega) ?_
    exact j_locR (kk _ ⟨d, s', Z, d3, mp3, p3, Z3, _, hD3, hZ, hI', hM3, hZ3, hMI3, hd3, ho3, hf3, hE⟩) (by repeat' (first | exact True.intro | refine And.intro rfl ?_))
  · refine j_aload_n 3 dL_law_957 rfl rfl ?_
    refine J_iconst dL_law_958 ?_
    refine j_lald dL_law_959 hf3 (I_vpin (by decide) (by decide)) ?_
    refine j_iload dL_law_960 rfl ?_
    refine j_i2l dL_law_962 ?_
    refine J_lcmp0 dL_law_963 (hv' c) ?_
    refine J_if_eq 969 dL_law_964 (by decide) (fun _ => ?_) (fun c => absurd rfl c) (by decide)
    refine j_goto 3041 dL_law_969 (by decide) ?_
    refine j_room (ck' := ck) (sk' := sk) (by omega) (by omega) ?_
    exact j_locR (kk _ ⟨d, s', Z, d3, mp3, p3, Z3, _, hD3, hZ, hI', hM3, hZ3, hMI3, hd3, ho3, hf3, hE⟩) (by repeat' (first | exact True.intro | refine And.intro rfl ?_))
set_option maxRecDepth 100000 in
theorem lc_10 {l : Launch} {G : jG} {a a2 o b N ck sk : Nat} {xs : Nat → Int32} {i n : Int} {QF : jF} {h : jH} (hl0 : l.stackTraces = false) (hN : N ≤ 2560) (hi : 0 ≤ i ∧ i + 5 ≤ (N : Int)) (hn : n < 512) (H : LI G a a2 o n h) (kk : ∀ h', LI G a a2 o (n + 1) h' → J l G mL_law (QH G b N xs QF) ck sk 3041 [(4, vI i), (3, .ref o), (2, .ref a2), (1, .ref a), (0, .ref b)] [] h') : J l G mL_law (QH G b N xs QF) (ck + 1030) (sk + 4110) 972 [(4, vI i), (3, .ref o), (2, .ref a2), (1, .ref a), (0, .ref b)] [] h := by
  obtain ⟨d, s, Z, d2, mp, p, Z2, f, hD, hZ, hI, hM, hZ2, hMI, hd, ho, hf, hev⟩ := H
  have hO : ∀ {P : Nat → OS} {p0 : OS} {h' : jH}, DN G a d h P p0 h' → h' o = some (aJ G 1 f) := fun hp => by obtain ⟨_, _, _, _, _, g⟩ := hp; exact (g o (fun z => (hd o z).2 rfl)).trans hf
  refine j_aload_n 1 dL_law_972 rfl rfl ?_
  refine j_aload_n 0 dL_law_973 rfl rfl ?_
  refine j_iload dL_law_974 rfl ?_
  refine J_iconst dL_law_976 ?_
  refine J_iadd dL_law_977 ?_
  refine J_sld dL_law_978 (by omega) ?_
  refine j_aload_n 0 dL_law_979 rfl rfl ?_
  refine j_iload dL_law_980 rfl ?_
  refine J_iconst dL_law_982 ?_
  refine J_iadd dL_law_983 ?_
  refine J_sld dL_law_984 (by omega) ?_
  refine j_aload_n 3 dL_law_985 rfl rfl ?_
  refine j_callSH (ck' := ck + 1029) (sk' := sk + 4104) kL_184 ceL_heightOf csL_heightOf (c_L_heightOf (f := f) hD.1 (toDN (c_X9_heightOf hl0 hD hI hZ (sX_rg _ _) (sX_rg _ _))) (hr1 rfl) (fun _ hp => hO hp)) (fun E h' hp => by cases hp.1) rfl rfl rfl rfl rfl dL_law_986 (by show 1 + (ck + 1029) ≤ ck + 1030; omega) (by show 6 + (sk + 4104) ≤ sk + 4110; omega) (fun v9 h2 hp => ?_)
  obtain ⟨ev9, h1, f', hN1, hf', hv', h12⟩ := hp
  cases ev9
  obtain ⟨s', hD', hI', es, ep, hM'⟩ := law_A hM hd ho hN1 h12
  refine j_istore (L' := [(5, _), (4, _), (3, _), (2, _), (1, _), (0, _)]) dL_law_989 rfl rfl ?_
  refine j_aload_n 2 dL_law_991 rfl rfl ?_
  refine j_aload_n 0 dL_law_992 rfl rfl ?_
  refine j_iload dL_law_993 rfl ?_
  refine J_iconst dL_law_995 ?_
  refine J_iadd dL_law_996 ?_
  refine J_sld dL_law_997 (by omega) ?_
  refine j_aload_n 0 dL_law_998 rfl rfl ?_
  refine j_iload dL_law_999 rfl ?_
  refine J_iconst dL_law_1001 ?_
  refine J_iadd dL_law_1002 ?_
  refine J_sld dL_law_1003 (by omega) ?_
  refine j_callV (ck' := ck + 1029) (sk' := sk + 4104) kL_186 cvX11_heightOf hM'.1.1 (toMN hZ2 (c_X11_heightOf hM' hZ2 hMI (sX_rg _ _) (sX_rg _ _))) rfl rfl rfl rfl rfl dL_law_1004 (by show 0 + (ck + 1029) ≤ ck + 1029; omega) (by show 0 + (sk + 4104) ≤ sk + 4104; omega) (fun v9 h3 hp => ?_) (fun E h' hp => by cases hp.1)
  obtain ⟨ev9, hN2⟩ := hp
  cases ev9
  obtain ⟨d3, mp3, p3, Z3, hM3, hZ3, hMI3, ht3, hD3, hd3, ho3, hf3⟩ := law_B hD' hd ho hf' es ep hN2
  have hE : evs s'.1 ≤ n + 1 := by rw [es]; omega
  refine j_istore (L' := [(6, _), (5, _), (4, _), (3, _), (2, _), (1, _), (0, _)]) dL_law_1007 rfl rfl ?_
  refine j_aload_n 2 dL_law_1009 rfl rfl ?_
  refine J_callV1 kL_150 cvX11_thrown hM3.1.1 (c_X11_thrown hM3 hZ3 hMI3) rfl rfl rfl rfl rfl dL_law_1010 rfl rfl ?_
  rw [ht3]
  refine j_iload dL_law_1013 rfl ?_
  refine j_icmp_eq 1020 dL_law_1015 (by decide) (fun _ => ?_) (fun c => absurd rfl c)
  refine j_iload dL_law_1020 rfl ?_
  refine J_if_ne 1037 dL_law_1022 (by decide) (fun c => ?_) (fun c => ?_) rg_t1
  · refine j_goto 3041 dL_law_1037 (by decide) ?_
    refine j_room (ck' := ck) (sk' := sk) (by omega) (by omega) ?_
    exact j_locR (kk _ ⟨d, s', Z, d3, mp3, p3, Z3, _, hD3, hZ, hI', hM3, hZ3, hMI3, hd3, ho3, hf3, hE⟩) (by repeat' (first | exact True.intro | refine And.intro rfl ?_))
  · refine j_aload_n 3 dL_law_1025 rfl rfl ?_
    refine J_iconst dL_law_1026 ?_
    refine j_lald dL_law_1027 hf3 (I_vpin (by decide) (by decide)) ?_
    refine j_iload dL_law_1028 rfl ?_
    refine j_i2l dL_law_1030 ?_
    refine J_lcmp0 dL_law_1031 (hv' c) ?_
    refine J_if_eq 1037 dL_law_1032 (by decide) (fun _ => ?_) (fun c => absurd rfl c) (by decide)
    refine j_goto 3041 dL_law_1037 (by decide) ?_
    refine j_room (ck' := ck) (sk' := sk) (by omega) (by omega) ?_
    exact j_locR (kk _ ⟨d, s', Z, d3, mp3, p3, Z3, _, hD3, hZ, hI', hM3, hZ3, hMI3, hd3, ho3, hf3, hE⟩) (by repeat' (first | exact True.intro | refine And.intro rfl ?_))
set_option maxRecDepth 100000 in
theorem lc_11 {l : Launch} {G : jG} {a a2 o b N ck sk : Nat} {xs : Nat → Int32} {i n : Int} {QF : jF} {h : jH} (hl0 : l.stackTraces = false) (hN : N ≤ 2560) (hi : 0 ≤ i ∧ i + 5 ≤ (N : Int)) (hn : n < 512) (H : LI G a a2 o n h) (kk : ∀ h', LI G a a2 o (n + 1) h' → J l G mL_law (QH G b N xs QF) ck sk 3041 [(4, vI i), (3, .ref o), (2, .ref a2), (1, .ref a), (0, .ref b)] [] h') : J l G mL_law (QH G b N xs QF) (ck + 1030) (sk + 4110) 1040 [(4, vI i), (3, .ref o), (2, .ref a2), (1, .ref a), (0, .ref b)] [] h := by
  obtain ⟨d, s, Z, d2, mp, p, Z2, f, hD, hZ, hI, hM, hZ2, hMI, hd, ho, hf, hev⟩ := H
  have hO : ∀ {P : Nat → OS} {p0 : OS} {h' : jH}, DN G a d h P p0 h' → h' o = some (aJ G 1 f) := fun hp => by obtain ⟨_, _, _, _, _, g⟩ := hp; exact (g o (fun z => (hd o z).2 rfl)).trans hf
  refine j_aload_n 1 dL_law_1040 rfl rfl ?_
  refine j_aload_n 0 dL_law_1041 rfl rfl ?_
  refine j_iload dL_law_1042 rfl ?_
  refine J_iconst dL_law_1044 ?_
  refine J_iadd dL_law_1045 ?_
  refine J_sld dL_law_1046 (by omega) ?_
  refine j_aload_n 0 dL_law_1047 rfl rfl ?_
  refine j_iload dL_law_1048 rfl ?_
  refine J_iconst dL_law_1050 ?_
  refine J_iadd dL_law_1051 ?_
  refine J_sld dL_law_1052 (by omega) ?_
  refine j_aload_n 3 dL_law_1053 rfl rfl ?_
  refine j_callSH (ck' := ck + 1029) (sk' := sk + 4104) kL_187 ceL_barOf csL_barOf (c_L_barOf (f := f) hD.1 (toDN (c_X9_barOf hl0 hD hI hZ (sX_rg _ _) (sX_rg _ _))) (hr1 rfl) (fun _ hp => hO hp)) (fun E h' hp => by cases hp.1) rfl rfl rfl rfl rfl dL_law_1054 (by show 1 + (ck + 1029) ≤ ck + 1030; omega) (by show 6 + (sk + 4104) ≤ sk + 4110; omega) (fun v9 h2 hp => ?_)
  obtain ⟨ev9, h1, f', hN1, hf', hv', h12⟩ := hp
  cases ev9
  obtain ⟨s', hD', hI', es, ep, hM'⟩ := law_A hM hd ho hN1 h12
  refine j_istore (L' := [(5, _), (4, _), (3, _), (2, _), (1, _), (0, _)]) dL_law_1057 rfl rfl ?_
  refine j_aload_n 2 dL_law_1059 rfl rfl ?_
  refine j_aload_n 0 dL_law_1060 rfl rfl ?_
  refine j_iload dL_law_1061 rfl ?_
  refine J_iconst dL_law_1063 ?_
  refine J_iadd dL_law_1064 ?_
  refine J_sld dL_law_1065 (by omega) ?_
  refine j_aload_n 0 dL_law_1066 rfl rfl ?_
  refine j_iload dL_law_1067 rfl ?_
  refine J_iconst dL_law_1069 ?_
  refine J_iadd dL_law_1070 ?_
  refine J_sld dL_law_1071 (by omega) ?_
  refine j_callV (ck' := ck + 1029) (sk' := sk + 4104) kL_189 cvX11_barOf hM'.1.1 (toMN hZ2 (c_X11_barOf hM' hZ2 hMI (sX_rg _ _) (sX_rg _ _))) rfl rfl rfl rfl rfl dL_law_1072 (by show 0 + (ck + 1029) ≤ ck + 1029; omega) (by show 0 + (sk + 4104) ≤ sk + 4104; omega) (fun v9 h3 hp => ?_) (fun E h' hp => by cases hp.1)
  obtain ⟨ev9, hN2⟩ := hp
  cases ev9
  obtain ⟨d3, mp3, p3, Z3, hM3, hZ3, hMI3, ht3, hD3, hd3, ho3, hf3⟩ := law_B hD' hd ho hf' es ep hN2
  have hE : evs s'.1 ≤ n + 1 := by rw [es]; omega
  refine j_istore (L' := [(6, _), (5, _), (4, _), (3, _), (2, _), (1, _), (0, _)]) dL_law_1075 rfl rfl ?_
  refine j_aload_n 2 dL_law_1077 rfl rfl ?_
  refine J_callV1 kL_150 cvX11_thrown hM3.1.1 (c_X11_thrown hM3 hZ3 hMI3) rfl rfl rfl rfl rfl dL_law_1078 rfl rfl ?_
  rw [ht3]
  refine j_iload dL_law_1081 rfl ?_
  refine j_icmp_eq 1088 dL_law_1083 (by decide) (fun _ => ?_) (fun c => absurd rfl c)
  refine j_iload dL_law_1088 rfl ?_
  refine J_if_ne 1105 dL_law_1090 (by decide) (fun c => ?_) (fun c => ?_) rg_t1
  · refine j_goto 3041 dL_law_1105 (by decide) ?_
    refine j_room (ck' := ck) (sk' := sk) (by omega) (by omega) ?_
    exact j_locR (kk _ ⟨d, s', Z, d3, mp3, p3, Z3, _, hD3, hZ, hI', hM3, hZ3, hMI3, hd3, ho3, hf3, hE⟩) (by repeat' (first | exact True.intro | refine And.intro rfl ?_))
  · refine j_aload_n 3 dL_law_1093 rfl rfl ?_
    refine J_iconst dL_law_1094 ?_
    refine j_lald dL_law_1095 hf3 (I_vpin (by decide) (by decide)) ?_
    refine j_iload dL_law_1096 rfl ?_
    refine j_i2l dL_law_1098 ?_
    refine J_lcmp0 dL_law_1099 (hv' c) ?_
    refine J_if_eq 1105 dL_law_1100 (by decide) (fun _ => ?_) (fun c => absurd rfl c) (by decide)
    refine j_goto 3041 dL_law_1105 (by decide) ?_
    refine j_room (ck' := ck) (sk' := sk) (by omega) (by omega) ?_
    exact j_locR (kk _ ⟨d, s', Z, d3, mp3, p3, Z3, _, hD3, hZ, hI', hM3, hZ3, hMI3, hd3, ho3, hf3, hE⟩) (by repeat' (first | exact True.intro | refine And.intro rfl ?_))
