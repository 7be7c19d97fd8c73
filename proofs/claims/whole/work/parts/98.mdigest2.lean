set_option maxRecDepth 100000 in
theorem c_X11_digest {l : Launch} {G : jG} {h : jH} {a : Nat} {d : MD} {mp P : Nat → OS} {p p0 : OS} {Z : Nat → Nat} (hM : Mod G h a d mp p) (hZ : Mz a d Z) (hI : MI d P p0 mp p.2) : jC l G yX11_digest mX11_digest [.ref a] h (jW (.inl (some (vL (digD P p0)))) (fun h' => ∃ p', Mod G h' a d mp p' ∧ MI d P p0 mp p'.2 ∧ p'.1 0 = 0 ∧ Fr (FtM a d) h h')) := by
  have hs := hI.1.1
  have hcal := hI.1.2.2
  have hbr := barsA_rg P p0
  have hcl := cntM_le P
  have hfl := fauA_len hs hI.1.2.1
  have fin : ∀ (ck sk : Nat) (q : OS) (h2 : jH) (D : Int), Mod G h2 a d mp q → MI d P p0 mp q.2 → q.1 30 = D → Fr (FtM a d) h h2 → digD P p0 = mixL (mixL (mixL D [barsA P p0]) (lnL P p0 40)) (lnL P p0 100) → J l G mX11_digest (jQ G mX11_digest (jW (.inl (some (vL (digD P p0)))) (fun h' => ∃ p', Mod G h' a d mp p' ∧ MI d P p0 mp p'.2 ∧ p'.1 0 = 0 ∧ Fr (FtM a d) h h'))) ck sk 312 [(0, .ref a)] [] h2 := by
    intro ck sk q h2 D hM hI hD hF hdig
    have hP := hM.1
    obtain ⟨Fa, hpa, hFa⟩ := hM.2.1
    have r40 := lnP_rg (P := P) hcal (w := 40) (by omega)
    have r100 := lnP_rg (P := P) hcal (w := 100) (by omega)
    refine j_aload_n 0 dX11_digest_312 rfl rfl ?_
    refine j_aload_n 0 dX11_digest_313 rfl rfl ?_
    refine J_callV1 kX11_307 cvX11_barsNow hP.1 (c_X11_barsNow hM hZ hI) rfl rfl rfl rfl rfl dX11_digest_314 rfl rfl ?_
    refine J_callVW0 kX11_328 cvX11_add_ hP.1 (c_X11_add_ hM hZ hI (by omega)) rfl rfl rfl rfl rfl dX11_digest_317 rfl rfl (fun h hp => ?_)
    obtain ⟨hM, hF9⟩ := hp
    have hF := hF.tr hF9
    have hP := hM.1
    have hD := add30M hD hM
    obtain ⟨Fa, hpa, hFa⟩ := hM.2.1
    refine j_aload_n 0 dX11_digest_320 rfl rfl ?_
    refine j_aload_n 0 dX11_digest_321 rfl rfl ?_
    refine J_bipush dX11_digest_322 (by decide) ?_
    refine J_callVW1 kX11_316 cvX11_linesNow hP.1 (c_X11_linesNow hM hZ hI (w := 40) (by omega)) rfl rfl rfl rfl rfl dX11_digest_324 rfl rfl (fun h hp => ?_)
    obtain ⟨q1, hM, hK, hF9⟩ := hp
    have hF := hF.tr hF9
    have hP := hM.1
    have hI := hK.mi hI
    have hD := hK.2.1.trans hD
    refine J_callVW0 kX11_328 cvX11_add_ hP.1 (c_X11_add_ hM hZ hI (r40.1)) rfl rfl rfl rfl rfl dX11_digest_327 rfl rfl (fun h hp => ?_)
    obtain ⟨hM, hF9⟩ := hp
    have hF := hF.tr hF9
    have hP := hM.1
    have hD := add30M hD hM
    obtain ⟨Fa, hpa, hFa⟩ := hM.2.1
    refine j_aload_n 0 dX11_digest_330 rfl rfl ?_
    refine j_aload_n 0 dX11_digest_331 rfl rfl ?_
    refine J_bipush dX11_digest_332 (by decide) ?_
    refine J_callVW1 kX11_319 cvX11_costNow hP.1 (c_X11_costNow hM hZ hI (w := 40) (by omega)) rfl rfl rfl rfl rfl dX11_digest_334 rfl rfl (fun h hp => ?_)
    obtain ⟨q2, hM, hK, hF9⟩ := hp
    have hF := hF.tr hF9
    have hP := hM.1
    have hI := hK.mi hI
    have hD := hK.2.1.trans hD
    refine J_callVW0 kX11_328 cvX11_add_ hP.1 (c_X11_add_ hM hZ hI (r40.2)) rfl rfl rfl rfl rfl dX11_digest_337 rfl rfl (fun h hp => ?_)
    obtain ⟨hM, hF9⟩ := hp
    have hF := hF.tr hF9
    have hP := hM.1
    have hD := add30M hD hM
    obtain ⟨Fa, hpa, hFa⟩ := hM.2.1
    refine j_aload_n 0 dX11_digest_340 rfl rfl ?_
    refine j_aload_n 0 dX11_digest_341 rfl rfl ?_
    refine J_bipush dX11_digest_342 (by decide) ?_
    refine J_callVW1 kX11_316 cvX11_linesNow hP.1 (c_X11_linesNow hM hZ hI (w := 100) (by omega)) rfl rfl rfl rfl rfl dX11_digest_344 rfl rfl (fun h hp => ?_)
    obtain ⟨q3, hM, hK, hF9⟩ := hp
    have hF := hF.tr hF9
    have hP := hM.1
    have hI := hK.mi hI
    have hD := hK.2.1.trans hD
    refine J_callVW0 kX11_328 cvX11_add_ hP.1 (c_X11_add_ hM hZ hI (r100.1)) rfl rfl rfl rfl rfl dX11_digest_347 rfl rfl (fun h hp => ?_)
    obtain ⟨hM, hF9⟩ := hp
    have hF := hF.tr hF9
    have hP := hM.1
    have hD := add30M hD hM
    obtain ⟨Fa, hpa, hFa⟩ := hM.2.1
    refine j_aload_n 0 dX11_digest_350 rfl rfl ?_
    refine j_aload_n 0 dX11_digest_351 rfl rfl ?_
    refine J_bipush dX11_digest_352 (by decide) ?_
    refine J_callVW1 kX11_319 cvX11_costNow hP.1 (c_X11_costNow hM hZ hI (w := 100) (by omega)) rfl rfl rfl rfl rfl dX11_digest_354 rfl rfl (fun h hp => ?_)
    obtain ⟨q4, hM, hK, hF9⟩ := hp
    have hF := hF.tr hF9
    have hP := hM.1
    have hI := hK.mi hI
    have hD := hK.2.1.trans hD
    refine J_callVW0 kX11_328 cvX11_add_ hP.1 (c_X11_add_ hM hZ hI (r100.2)) rfl rfl rfl rfl rfl dX11_digest_357 rfl rfl (fun h hp => ?_)
    obtain ⟨hM, hF9⟩ := hp
    have hF := hF.tr hF9
    have hP := hM.1
    have hD := add30M hD hM
    obtain ⟨Fa, hpa, hFa⟩ := hM.2.1
    refine j_aload_n 0 dX11_digest_360 rfl rfl ?_
    refine J_iconst dX11_digest_361 ?_
    refine J_putA hP fX11_87 tyX11_thrown dX11_digest_362 rfl rfl (fun h hP hF362 => ?_)
    have hM := hM.w hZ hP hF362
    have hF := hF.tr (hF362.mono (fun _ q => Or.inl q))
    refine j_aload_n 0 dX11_digest_365 rfl rfl ?_
    refine j_get fX11_322 dX11_digest_366 hP.1 rfl ?_
    refine j_lret rfl dX11_digest_369 ?_
    refine ⟨?_, _, hM, hI, rfl, hF⟩
    rw [hdig]
    exact congrArg (fun z => Sum.inl (some (vL z))) hD
  have K258 : ∀ (ck sk : Nat) (q : OS) (h2 : jH) (D : Int), Mod G h2 a d mp q → MI d P p0 mp q.2 → q.1 30 = D → Fr (FtM a d) h h2 → digD P p0 = mixL (mixL (mixL (mixL D (faL P)) [barsA P p0]) (lnL P p0 40)) (lnL P p0 100) → J l G mX11_digest (jQ G mX11_digest (jW (.inl (some (vL (digD P p0)))) (fun h' => ∃ p', Mod G h' a d mp p' ∧ MI d P p0 mp p'.2 ∧ p'.1 0 = 0 ∧ Fr (FtM a d) h h'))) ck sk 258 [(0, .ref a)] [] h2 := by
    intro ck sk q h2 D hM hI hD hF hdig
    have loop : ∀ (n i : Nat) (q : OS) (h2 : jH), i + n = (fauA P).length → Mod G h2 a d mp q → MI d P p0 mp q.2 → q.1 30 = mixL D ([((fauA P).length : Int)] ++ rpt (faL1 P) i) → Fr (FtM a d) h h2 → J l G mX11_digest (jQ G mX11_digest (jW (.inl (some (vL (digD P p0)))) (fun h' => ∃ p', Mod G h' a d mp p' ∧ MI d P p0 mp p'.2 ∧ p'.1 0 = 0 ∧ Fr (FtM a d) h h'))) ck sk 271 [(2, vI (i : Int)), (1, vI ((fauA P).length : Int)), (0, .ref a)] [] h2 := by
      intro n
      induction n with
      | zero =>
        intro i q h2 hi hM hI hD hF
        obtain rfl : i = (fauA P).length := by omega
        refine j_iload_n 2 dX11_digest_271 rfl rfl ?_
        refine j_iload_n 1 dX11_digest_272 rfl rfl ?_
        refine J_icmp_ge 312 dX11_digest_273 (by decide) (fun c273 => ?_) (fun c273 => absurd c273 (by omega)) 
        exact j_locR (fin ck sk q h2 _ hM hI hD hF (hdig.trans rfl)) (by repeat' (first | exact True.intro | refine And.intro rfl ?_))
      | succ n ih =>
        intro i q h2 hi hM hI hD hF
        have hP := hM.1
        have hrf := fauA_rg hs i
        refine j_iload_n 2 dX11_digest_271 rfl rfl ?_
        refine j_iload_n 1 dX11_digest_272 rfl rfl ?_
        refine J_icmp_ge 312 dX11_digest_273 (by decide) (fun c273 => absurd c273 (by omega)) (fun c273 => ?_) 
        refine j_aload_n 0 dX11_digest_276 rfl rfl ?_
        refine j_iload_n 2 dX11_digest_277 rfl rfl ?_
        refine J_callVW1 kX11_301 cvX11_countFaults hP.1 (c_X11_countFaults hM hZ hI (w := (i : Int)) (by omega)) rfl rfl rfl rfl rfl dX11_digest_278 rfl rfl (fun h hp => ?_)
        obtain ⟨q1, hM, hS, hK, hF9⟩ := hp
        have hF := hF.tr hF9
        have hP := hM.1
        have hI := hK.mi hI
        have hD := hK.2.1.trans hD
        have hat := hS.at ⟨by omega, by omega⟩
        rw [Int.toNat_natCast] at hat
        refine j_pop dX11_digest_281 rfl ?_
        refine j_aload_n 0 dX11_digest_282 rfl rfl ?_
        refine j_aload_n 0 dX11_digest_283 rfl rfl ?_
        refine j_get fX11_279 dX11_digest_284 hP.1 rfl ?_
        refine J_top (((fauA P)[i]?.getD (0, 0, 0)).1) ?_ (by exact hat.1)
        refine J_callVW0 kX11_328 cvX11_add_ hP.1 (c_X11_add_ hM hZ hI (hrf.1)) rfl rfl rfl rfl rfl dX11_digest_287 rfl rfl (fun h hp => ?_)
        obtain ⟨hM, hF9⟩ := hp
        have hF := hF.tr hF9
        have hP := hM.1
        have hD := add30M hD hM
        obtain ⟨Fa, hpa, hFa⟩ := hM.2.1
        refine j_aload_n 0 dX11_digest_290 rfl rfl ?_
        refine j_aload_n 0 dX11_digest_291 rfl rfl ?_
        refine j_get fX11_282 dX11_digest_292 hP.1 rfl ?_
        refine J_top (((fauA P)[i]?.getD (0, 0, 0)).2.1) ?_ (by exact hat.2.1)
        refine J_callVW0 kX11_328 cvX11_add_ hP.1 (c_X11_add_ hM hZ hI (hrf.2.1)) rfl rfl rfl rfl rfl dX11_digest_295 rfl rfl (fun h hp => ?_)
        obtain ⟨hM, hF9⟩ := hp
        have hF := hF.tr hF9
        have hP := hM.1
        have hD := add30M hD hM
        obtain ⟨Fa, hpa, hFa⟩ := hM.2.1
        refine j_aload_n 0 dX11_digest_298 rfl rfl ?_
        refine j_aload_n 0 dX11_digest_299 rfl rfl ?_
        refine j_get fX11_285 dX11_digest_300 hP.1 rfl ?_
        refine J_top (((fauA P)[i]?.getD (0, 0, 0)).2.2) ?_ (by exact hat.2.2)
        refine J_callVW0 kX11_328 cvX11_add_ hP.1 (c_X11_add_ hM hZ hI (hrf.2.2)) rfl rfl rfl rfl rfl dX11_digest_303 rfl rfl (fun h hp => ?_)
        obtain ⟨hM, hF9⟩ := hp
        have hF := hF.tr hF9
        have hP := hM.1
        have hD := add30M hD hM
        obtain ⟨Fa, hpa, hFa⟩ := hM.2.1
        refine J_iinc (L' := [(2, _), (1, _), (0, _)]) dX11_digest_306 rfl rfl rfl ?_
        refine j_goto 271 dX11_digest_309 (by decide) ?_
        exact j_locR (ih (i + 1) _ _ (by omega) hM hI (hD.trans (by rw [rpt_s, ← List.append_assoc, mixL_app D ([((fauA P).length : Int)] ++ rpt (faL1 P) i) (faL1 P i)]; rfl)) hF) (by repeat' (first | exact True.intro | refine And.intro rfl ?_))
    have hP := hM.1
    refine j_aload_n 0 dX11_digest_258 rfl rfl ?_
    refine J_iconst dX11_digest_259 ?_
    refine J_callVW1 kX11_301 cvX11_countFaults hP.1 (c_X11_countFaults hM hZ hI (w := -1) (by decide)) rfl rfl rfl rfl rfl dX11_digest_260 rfl rfl (fun h hp => ?_)
    obtain ⟨q1, hM, hS, hK, hF9⟩ := hp
    have hF := hF.tr hF9
    have hP := hM.1
    have hI := hK.mi hI
    have hD := hK.2.1.trans hD
    refine j_istore_n 1 (L' := [(1, _), (0, _)]) dX11_digest_263 rfl rfl rfl ?_
    refine j_aload_n 0 dX11_digest_264 rfl rfl ?_
    refine j_iload_n 1 dX11_digest_265 rfl rfl ?_
    refine J_callVW0 kX11_328 cvX11_add_ hP.1 (c_X11_add_ hM hZ hI (by omega)) rfl rfl rfl rfl rfl dX11_digest_266 rfl rfl (fun h hp => ?_)
    obtain ⟨hM, hF9⟩ := hp
    have hF := hF.tr hF9
    have hP := hM.1
    have hD := add30M hD hM
    obtain ⟨Fa, hpa, hFa⟩ := hM.2.1
    refine J_iconst dX11_digest_269 ?_
    refine j_istore_n 2 (L' := [(2, _), (1, _), (0, _)]) dX11_digest_270 rfl rfl rfl ?_
    exact j_locR (loop (fauA P).length 0 _ _ (by omega) hM hI hD hF) (by repeat' (first | exact True.intro | refine And.intro rfl ?_))
  have K178 : ∀ (q : OS) (h2 : jH) (D : Int), Mod G h2 a d mp q → MI d P p0 mp q.2 → q.1 30 = D → Fr (FtM a d) h h2 → digD P p0 = mixL (mixL (mixL (mixL (mixL D (moL P)) (faL P)) [barsA P p0]) (lnL P p0 40)) (lnL P p0 100) → J l G mX11_digest (jQ G mX11_digest (jW (.inl (some (vL (digD P p0)))) (fun h' => ∃ p', Mod G h' a d mp p' ∧ MI d P p0 mp p'.2 ∧ p'.1 0 = 0 ∧ Fr (FtM a d) h h'))) 1024 4096 178 [(0, .ref a)] [] h2 := by
    intro q h2 D hM hI hD hF hdig
    have loop : ∀ (n m : Nat) (q : OS) (h2 : jH), m + n = cntM P → Mod G h2 a d mp q → MI d P p0 mp q.2 → WS P m q → q.1 30 = mixL D ([(cntM P : Int)] ++ rpt (moL1 P) m) → Fr (FtM a d) h h2 → J l G mX11_digest (jQ G mX11_digest (jW (.inl (some (vL (digD P p0)))) (fun h' => ∃ p', Mod G h' a d mp p' ∧ MI d P p0 mp p'.2 ∧ p'.1 0 = 0 ∧ Fr (FtM a d) h h'))) (2 * n) (8 * n) 190 [(0, .ref a)] [] h2 := by
      intro n
      induction n with
      | zero =>
        intro m q h2 hm hM hI hW hD hF
        have hP := hM.1
        have hend := cntM_end hs hI.1.2.1
        obtain rfl : m = cntM P := by omega
        refine j_aload_n 0 dX11_digest_190 rfl rfl ?_
        refine J_callV1 kX11_248 cvX11_walk hP.1 (c0_X11_walk hM hZ hI hW hend) rfl rfl rfl rfl rfl dX11_digest_191 rfl rfl ?_
        refine J_if_eq 258 dX11_digest_194 (by decide) (fun c194 => ?_) (fun c194 => absurd c194 (by decide)) 
        exact j_locR (K258 _ _ q h2 _ hM hI hD hF (hdig.trans rfl)) (by repeat' (first | exact True.intro | refine And.intro rfl ?_))
      | succ n ih =>
        intro m q h2 hm hM hI hW hD hF
        have hP := hM.1
        have hne := cntM_pos (P := P) (j := m) (by omega)
        have hmr := momT_rg hs m
        have hcr := chd_rg (P := P) (m := m)
        -- behind the parts
        have K227 : ∀ (q : OS) (h2 : jH) (E : Int), Mod G h2 a d mp q → MI d P p0 mp q.2 → WS P (m + 1) q → q.1 30 = E → mixL D ([(cntM P : Int)] ++ rpt (moL1 P) (m + 1)) = mixL E [(chdF P m).1 0, (chdF P m).1 1, (chdF P m).1 2] → Fr (FtM a d) h h2 → J l G mX11_digest (jQ G mX11_digest (jW (.inl (some (vL (digD P p0)))) (fun h' => ∃ p', Mod G h' a d mp p' ∧ MI d P p0 mp p'.2 ∧ p'.1 0 = 0 ∧ Fr (FtM a d) h h'))) (2 * (n + 1)) (8 * (n + 1)) 227 [(0, .ref a)] [] h2 := by
          intro q h2 E hM hI hW hD hE hF
          have hP := hM.1
          refine j_aload_n 0 dX11_digest_227 rfl rfl ?_
          refine j_callV (ck' := 2 * n) (sk' := 8 * n) kX11_270 cvX11_findChord hP.1 (c_X11_findChord hM hZ hI hW) rfl rfl rfl rfl rfl dX11_digest_228 (by show 2 + 2 * n ≤ 2 * (n + 1); omega) (by show 8 + 8 * n ≤ 8 * (n + 1); omega) (fun v h hp => ?_) (fun E h hp => by cases hp.1)
          obtain ⟨ev, q2, hM, hT2, hU2, hF9⟩ := hp
          cases ev
          have hF := hF.tr hF9
          have hP := hM.1
          have hI := hU2.mi hI
          have hD := hU2.ku.2.1.trans hD
          have hW := hU2.ws hW
          refine j_aload_n 0 dX11_digest_231 rfl rfl ?_
          refine j_aload_n 0 dX11_digest_232 rfl rfl ?_
          refine j_get fX11_261 dX11_digest_233 hP.1 rfl ?_
          refine J_top ((chdF P m).1 0) ?_ (by exact congrArg (fun t : T3 => t.1) hT2)
          refine J_callVW0 kX11_328 cvX11_add_ hP.1 (c_X11_add_ hM hZ hI (by omega)) rfl rfl rfl rfl rfl dX11_digest_236 rfl rfl (fun h hp => ?_)
          obtain ⟨hM, hF9⟩ := hp
          have hF := hF.tr hF9
          have hP := hM.1
          have hD := add30M hD hM
          obtain ⟨Fa, hpa, hFa⟩ := hM.2.1
          refine j_aload_n 0 dX11_digest_239 rfl rfl ?_
          refine j_aload_n 0 dX11_digest_240 rfl rfl ?_
          refine j_get fX11_264 dX11_digest_241 hP.1 rfl ?_
          refine J_top ((chdF P m).1 1) ?_ (by exact congrArg (fun t : T3 => t.2.1) hT2)
          refine J_callVW0 kX11_328 cvX11_add_ hP.1 (c_X11_add_ hM hZ hI (by omega)) rfl rfl rfl rfl rfl dX11_digest_244 rfl rfl (fun h hp => ?_)
          obtain ⟨hM, hF9⟩ := hp
          have hF := hF.tr hF9
          have hP := hM.1
          have hD := add30M hD hM
          obtain ⟨Fa, hpa, hFa⟩ := hM.2.1
          refine j_aload_n 0 dX11_digest_247 rfl rfl ?_
          refine j_aload_n 0 dX11_digest_248 rfl rfl ?_
          refine j_get fX11_267 dX11_digest_249 hP.1 rfl ?_
          refine J_top ((chdF P m).1 2) ?_ (by exact congrArg (fun t : T3 => t.2.2) hT2)
          refine J_callVW0 kX11_328 cvX11_add_ hP.1 (c_X11_add_ hM hZ hI (by omega)) rfl rfl rfl rfl rfl dX11_digest_252 rfl rfl (fun h hp => ?_)
          obtain ⟨hM, hF9⟩ := hp
          have hF := hF.tr hF9
          have hP := hM.1
          have hD := add30M hD hM
          obtain ⟨Fa, hpa, hFa⟩ := hM.2.1
          refine j_goto 190 dX11_digest_255 (by decide) ?_
          exact j_locR (ih (m + 1) _ _ (by omega) hM hI hW (hD.trans hE.symm) hF) (by repeat' (first | exact True.intro | refine And.intro rfl ?_))
        have parts : ∀ (n2 j : Nat) (q : OS) (h2 : jH), j + n2 = 4 → Mod G h2 a d mp q → MI d P p0 mp q.2 → WS P (m + 1) q → q.1 30 = mixL (mixL D ([(cntM P : Int)] ++ rpt (moL1 P) m)) ([momT P m] ++ rpt (fun k => [hiM P m k]) j) → Fr (FtM a d) h h2 → J l G mX11_digest (jQ G mX11_digest (jW (.inl (some (vL (digD P p0)))) (fun h' => ∃ p', Mod G h' a d mp p' ∧ MI d P p0 mp p'.2 ∧ p'.1 0 = 0 ∧ Fr (FtM a d) h h'))) (2 * (n + 1)) (8 * (n + 1)) 207 [(1, vI (j : Int)), (0, .ref a)] [] h2 := by
          intro n2
          induction n2 with
          | zero =>
            intro j q h2 hj hM hI hW hD hF
            obtain rfl : j = 4 := by omega
            refine j_iload_n 1 dX11_digest_207 rfl rfl ?_
            refine J_iconst dX11_digest_208 ?_
            refine J_icmp_ge 227 dX11_digest_209 (by decide) (fun c209 => ?_) (fun c209 => absurd c209 (by omega)) 
            exact j_locR (K227 q h2 _ hM hI hW hD (by rw [rpt_s, ← List.append_assoc, mixL_app D ([(cntM P : Int)] ++ rpt (moL1 P) m) (moL1 P m)]; exact mixL_app _ ([momT P m] ++ rpt (fun k => [hiM P m k]) 4) [(chdF P m).1 0, (chdF P m).1 1, (chdF P m).1 2]) hF) (by repeat' (first | exact True.intro | refine And.intro rfl ?_))
          | succ n2 ih2 =>
            intro j q h2 hj hM hI hW hD hF
            have hP := hM.1
            have hh := hiM_rg hs m j (by omega)
            refine j_iload_n 1 dX11_digest_207 rfl rfl ?_
            refine J_iconst dX11_digest_208 ?_
            refine J_icmp_ge 227 dX11_digest_209 (by decide) (fun c209 => absurd c209 (by omega)) (fun c209 => ?_) 
            refine j_aload_n 0 dX11_digest_212 rfl rfl ?_
            refine j_aload_n 0 dX11_digest_213 rfl rfl ?_
            refine j_iload_n 1 dX11_digest_214 rfl rfl ?_
            refine J_callV1 kX11_258 cvX11_soundsNow hP.1 (c_X11_soundsNow hM hZ hI hW (k := (j : Int)) ⟨by omega, by omega⟩) rfl rfl rfl rfl rfl dX11_digest_215 rfl rfl ?_
            refine J_callVW0 kX11_328 cvX11_add_ hP.1 (c_X11_add_ hM hZ hI (by omega)) rfl rfl rfl rfl rfl dX11_digest_218 rfl rfl (fun h hp => ?_)
            obtain ⟨hM, hF9⟩ := hp
            have hF := hF.tr hF9
            have hP := hM.1
            have hD := add30M hD hM
            obtain ⟨Fa, hpa, hFa⟩ := hM.2.1
            refine J_iinc (L' := [(1, _), (0, _)]) dX11_digest_221 rfl rfl rfl ?_
            refine j_goto 207 dX11_digest_224 (by decide) ?_
            exact j_locR (ih2 (j + 1) _ _ (by omega) hM hI hW (hD.trans (by rw [rpt_s, ← List.append_assoc, mixL_app _ ([momT P m] ++ rpt (fun k => [hiM P m k]) j) [hiM P m j]])) hF) (by repeat' (first | exact True.intro | refine And.intro rfl ?_))
        refine j_aload_n 0 dX11_digest_190 rfl rfl ?_
        refine J_callVW1 kX11_248 cvX11_walk hP.1 (c1_X11_walk hM hZ hI hW hne) rfl rfl rfl rfl rfl dX11_digest_191 rfl rfl (fun h hp => ?_)
        obtain ⟨q1, hM, hW, hU, hF9⟩ := hp
        have hF := hF.tr hF9
        have hP := hM.1
        have hI := hU.mi hI
        have hD := hU.ku.2.1.trans hD
        refine J_if_eq 258 dX11_digest_194 (by decide) (fun c194 => absurd c194 (by decide)) (fun c194 => ?_) 
        refine j_aload_n 0 dX11_digest_197 rfl rfl ?_
        refine j_aload_n 0 dX11_digest_198 rfl rfl ?_
        refine j_get fX11_239 dX11_digest_199 hP.1 rfl ?_
        refine J_top (momT P m) ?_ (by exact hW.1)
        refine J_callVW0 kX11_328 cvX11_add_ hP.1 (c_X11_add_ hM hZ hI (by omega)) rfl rfl rfl rfl rfl dX11_digest_202 rfl rfl (fun h hp => ?_)
        obtain ⟨hM, hF9⟩ := hp
        have hF := hF.tr hF9
        have hP := hM.1
        have hD := add30M hD hM
        obtain ⟨Fa, hpa, hFa⟩ := hM.2.1
        refine J_iconst dX11_digest_205 ?_
        refine j_istore_n 1 (L' := [(1, _), (0, _)]) dX11_digest_206 rfl rfl rfl ?_
        exact j_locR (parts 4 0 _ _ (by omega) hM hI hW hD hF) (by repeat' (first | exact True.intro | refine And.intro rfl ?_))
    have hP := hM.1
    refine j_aload_n 0 dX11_digest_178 rfl rfl ?_
    refine j_aload_n 0 dX11_digest_179 rfl rfl ?_
    refine J_callVW1 kX11_252 cvX11_momentsNow hP.1 (c_X11_momentsNow hM hZ hI) rfl rfl rfl rfl rfl dX11_digest_180 rfl rfl (fun h hp => ?_)
    obtain ⟨q1, hM, hU, hF9⟩ := hp
    have hF := hF.tr hF9
    have hP := hM.1
    have hI := hU.mi hI
    have hD := hU.ku.2.1.trans hD
    refine J_callVW0 kX11_328 cvX11_add_ hP.1 (c_X11_add_ hM hZ hI (by omega)) rfl rfl rfl rfl rfl dX11_digest_183 rfl rfl (fun h hp => ?_)
    obtain ⟨hM, hF9⟩ := hp
    have hF := hF.tr hF9
    have hP := hM.1
    have hD := add30M hD hM
    obtain ⟨Fa, hpa, hFa⟩ := hM.2.1
    refine j_aload_n 0 dX11_digest_186 rfl rfl ?_
    refine J_callVW0 kX11_245 cvX11_beginWalk hP.1 (c_X11_beginWalk hM hZ hI) rfl rfl rfl rfl rfl dX11_digest_187 rfl rfl (fun h hp => ?_)
    obtain ⟨q2, hM, hW, hU2, hF9⟩ := hp
    have hF := hF.tr hF9
    have hP := hM.1
    have hI := hU2.mi hI
    have hD := hU2.ku.2.1.trans hD
    refine j_room (ck' := 2 * cntM P) (sk' := 8 * cntM P) (by omega) (by omega) ?_
    exact j_locR (loop (cntM P) 0 _ _ (by omega) hM hI hW hD hF) (by repeat' (first | exact True.intro | refine And.intro rfl ?_))
  have bars : ∀ (n b : Nat) (q : OS) (h2 : jH), b + n = 24 → Mod G h2 a d mp q → MI d P p0 mp q.2 → q.1 30 = mixL (mixL 2467 (rpt (fun k => ptL (P k) p0) 4)) (rpt (brL P p0) b) → Fr (FtM a d) h h2 → J l G mX11_digest (jQ G mX11_digest (jW (.inl (some (vL (digD P p0)))) (fun h' => ∃ p', Mod G h' a d mp p' ∧ MI d P p0 mp p'.2 ∧ p'.1 0 = 0 ∧ Fr (FtM a d) h h'))) 1024 4096 120 [(1, vI (b : Int)), (0, .ref a)] [] h2 := by
    intro n
    induction n with
    | zero =>
      intro b q h2 hb hM hI hD hF
      obtain rfl : b = 24 := by omega
      refine j_iload_n 1 dX11_digest_120 rfl rfl ?_
      refine J_bipush dX11_digest_121 (by decide) ?_
      refine J_icmp_ge 178 dX11_digest_123 (by decide) (fun c123 => ?_) (fun c123 => absurd c123 (by omega)) 
      exact j_locR (K178 q h2 _ hM hI hD hF (by unfold digD digL; simp only [mixL_app])) (by repeat' (first | exact True.intro | refine And.intro rfl ?_))
    | succ n ih =>
      intro b q h2 hb hM hI hD hF
      have hP := hM.1
      have hbb : isBar (b : Int) := ⟨by omega, by omega⟩
      have hlen := hI.len hbb
      have hss := hI.sum (n := b) (by omega)
      have hwz := widF_Z (P := P) hI.1.2.2.1 b (by omega) (by omega)
      have parts : ∀ (n2 j : Nat) (q : OS) (h2 : jH), j + n2 = 4 → Mod G h2 a d mp q → MI d P p0 mp q.2 → q.1 30 = mixL (mixL (mixL 2467 (rpt (fun k => ptL (P k) p0) 4)) (rpt (brL P p0) b)) ([sumN (p0.2 2) b, p0.2 2 b, widF P p0 b] ++ rpt (brP P p0 b) j) → Fr (FtM a d) h h2 → J l G mX11_digest (jQ G mX11_digest (jW (.inl (some (vL (digD P p0)))) (fun h' => ∃ p', Mod G h' a d mp p' ∧ MI d P p0 mp p'.2 ∧ p'.1 0 = 0 ∧ Fr (FtM a d) h h'))) 1024 4096 155 [(2, vI (j : Int)), (1, vI (b : Int)), (0, .ref a)] [] h2 := by
        intro n2
        induction n2 with
        | zero =>
          intro j q h2 hj hM hI hD hF
          obtain rfl : j = 4 := by omega
          refine j_iload_n 2 dX11_digest_155 rfl rfl ?_
          refine J_iconst dX11_digest_156 ?_
          refine J_icmp_ge 172 dX11_digest_157 (by decide) (fun c157 => ?_) (fun c157 => absurd c157 (by omega)) 
          refine J_iinc (L' := [(1, _), (2, _), (0, _)]) dX11_digest_172 rfl rfl rfl ?_
          refine j_goto 120 dX11_digest_175 (by decide) ?_
          exact j_locR (ih (b + 1) q h2 (by omega) hM hI (hD.trans (by rw [rpt_s (brL P p0) b, mixL_app _ (rpt (brL P p0) b) (brL P p0 b)]; rfl)) hF) (by repeat' (first | exact True.intro | refine And.intro rfl ?_))
        | succ n2 ih2 =>
          intro j q h2 hj hM hI hD hF
          have hP := hM.1
          have gs := c_X11_addSigns (l := l) hM hZ hI (k := (j : Int)) (b := (b : Int)) ⟨by omega, by omega⟩ hbb
          rw [Int.toNat_natCast] at gs
          refine j_iload_n 2 dX11_digest_155 rfl rfl ?_
          refine J_iconst dX11_digest_156 ?_
          refine J_icmp_ge 172 dX11_digest_157 (by decide) (fun c157 => absurd c157 (by omega)) (fun c157 => ?_) 
          refine j_aload_n 0 dX11_digest_160 rfl rfl ?_
          refine j_iload_n 2 dX11_digest_161 rfl rfl ?_
          refine j_iload_n 1 dX11_digest_162 rfl rfl ?_
          refine J_callVW0 kX11_332 cvX11_addSigns hP.1 gs rfl rfl rfl rfl rfl dX11_digest_163 rfl rfl (fun h hp => ?_)
          obtain ⟨q1, hM, hs1, hI, hF9⟩ := hp
          have hF := hF.tr hF9
          rw [hD] at hs1
          refine J_iinc (L' := [(2, _), (1, _), (0, _)]) dX11_digest_166 rfl rfl rfl ?_
          refine j_goto 155 dX11_digest_169 (by decide) ?_
          exact j_locR (ih2 (j + 1) _ _ (by omega) hM hI (hs1.trans (by rw [rpt_s (brP P p0 b) j, ← List.append_assoc, mixL_app _ ([sumN (p0.2 2) b, p0.2 2 b, widF P p0 b] ++ rpt (brP P p0 b) j) (brP P p0 b j)])) hF) (by repeat' (first | exact True.intro | refine And.intro rfl ?_))
      refine j_iload_n 1 dX11_digest_120 rfl rfl ?_
      refine J_bipush dX11_digest_121 (by decide) ?_
      refine J_icmp_ge 178 dX11_digest_123 (by decide) (fun c123 => absurd c123 (by omega)) (fun c123 => ?_) 
      refine j_aload_n 0 dX11_digest_126 rfl rfl ?_
      refine j_aload_n 0 dX11_digest_127 rfl rfl ?_
      refine j_iload_n 1 dX11_digest_128 rfl rfl ?_
      refine J_callV1 kX11_112 cvX11_begin hP.1 (c_X11_begin hM hZ hI (b := (b : Int)) ⟨by omega, by omega⟩) rfl rfl rfl rfl rfl dX11_digest_129 rfl rfl ?_
      refine J_top (sumN (p0.2 2) b) ?_ (by rw [Int.toNat_natCast])
      refine J_callVW0 kX11_328 cvX11_add_ hP.1 (c_X11_add_ hM hZ hI (by omega)) rfl rfl rfl rfl rfl dX11_digest_132 rfl rfl (fun h hp => ?_)
      obtain ⟨hM, hF9⟩ := hp
      have hF := hF.tr hF9
      have hP := hM.1
      have hD := add30M hD hM
      obtain ⟨Fa, hpa, hFa⟩ := hM.2.1
      refine j_aload_n 0 dX11_digest_135 rfl rfl ?_
      refine j_aload_n 0 dX11_digest_136 rfl rfl ?_
      refine j_iload_n 1 dX11_digest_137 rfl rfl ?_
      refine J_callV1 kX11_105 cvX11_length hP.1 (c_X11_length hM hZ hI hbb) rfl rfl rfl rfl rfl dX11_digest_138 rfl rfl ?_
      refine J_callVW0 kX11_328 cvX11_add_ hP.1 (c_X11_add_ hM hZ hI (by omega)) rfl rfl rfl rfl rfl dX11_digest_141 rfl rfl (fun h hp => ?_)
      obtain ⟨hM, hF9⟩ := hp
      have hF := hF.tr hF9
      have hP := hM.1
      have hD := add30M hD hM
      obtain ⟨Fa, hpa, hFa⟩ := hM.2.1
      refine j_aload_n 0 dX11_digest_144 rfl rfl ?_
      refine j_aload_n 0 dX11_digest_145 rfl rfl ?_
      refine j_iload_n 1 dX11_digest_146 rfl rfl ?_
      refine J_callV1 kX11_310 cvX11_width hP.1 (c_X11_width hM hZ hI hbb) rfl rfl rfl rfl rfl dX11_digest_147 rfl rfl ?_
      refine J_callVW0 kX11_328 cvX11_add_ hP.1 (c_X11_add_ hM hZ hI (by omega)) rfl rfl rfl rfl rfl dX11_digest_150 rfl rfl (fun h hp => ?_)
      obtain ⟨hM, hF9⟩ := hp
      have hF := hF.tr hF9
      have hP := hM.1
      have hD := add30M hD hM
      obtain ⟨Fa, hpa, hFa⟩ := hM.2.1
      refine J_iconst dX11_digest_153 ?_
      refine j_istore_n 2 (L' := [(2, _), (1, _), (0, _)]) dX11_digest_154 rfl rfl rfl ?_
      exact j_locR (parts 4 0 _ _ (by omega) hM hI hD hF) (by repeat' (first | exact True.intro | refine And.intro rfl ?_))
  have pts : ∀ (n j : Nat) (q : OS) (h2 : jH), j + n = 4 → Mod G h2 a d mp q → MI d P p0 mp q.2 → q.1 30 = mixL 2467 (rpt (fun k => ptL (P k) p0) j) → Fr (FtM a d) h h2 → J l G mX11_digest (jQ G mX11_digest (jW (.inl (some (vL (digD P p0)))) (fun h' => ∃ p', Mod G h' a d mp p' ∧ MI d P p0 mp p'.2 ∧ p'.1 0 = 0 ∧ Fr (FtM a d) h h'))) 1024 4096 9 [(1, vI (j : Int)), (0, .ref a)] [] h2 := by
    intro n
    induction n with
    | zero =>
      intro j q h2 hj hM hI hD hF
      obtain rfl : j = 4 := by omega
      refine j_iload_n 1 dX11_digest_9 rfl rfl ?_
      refine J_iconst dX11_digest_10 ?_
      refine J_icmp_ge 118 dX11_digest_11 (by decide) (fun c11 => ?_) (fun c11 => absurd c11 (by omega)) 
      refine J_iconst dX11_digest_118 ?_
      refine j_istore_n 1 (L' := [(1, _), (0, _)]) dX11_digest_119 rfl rfl rfl ?_
      exact j_locR (bars 24 0 q h2 (by omega) hM hI hD hF) (by repeat' (first | exact True.intro | refine And.intro rfl ?_))
    | succ n ih =>
      intro j q h2 hj hM hI hD hF
      have hP := hM.1
      obtain ⟨Fa, hpa, hFa⟩ := hM.2.1
      have hj4 : j < 4 := by omega
      have hPk := hM.2.2 j hj4
      have hmk := hI.2.1 j hj4
      have hpk := hs j hj4
      have hn7 : 0 ≤ (P j).1 7 ∧ (P j).1 7 ≤ 512 := hpk.1
      have hen := hmk.2.2.1
      have hez := hmk.2.2.2
      have evs : ∀ (n2 i : Nat) (q : OS) (h2 : jH), (i : Int) + n2 = (P j).1 7 → Mod G h2 a d mp q → MI d P p0 mp q.2 → q.1 30 = mixL (mixL 2467 (rpt (fun k => ptL (P k) p0) j)) ([(P j).1 7] ++ rpt (evL (P j) p0) i) → Fr (FtM a d) h h2 → J l G mX11_digest (jQ G mX11_digest (jW (.inl (some (vL (digD P p0)))) (fun h' => ∃ p', Mod G h' a d mp p' ∧ MI d P p0 mp p'.2 ∧ p'.1 0 = 0 ∧ Fr (FtM a d) h h'))) 1024 4096 29 [(2, vI (i : Int)), (1, vI (j : Int)), (0, .ref a)] [] h2 := by
        intro n2
        induction n2 with
        | zero =>
          intro i q h2 hi hM hI hD hF
          have hP := hM.1
          obtain ⟨Fa, hpa, hFa⟩ := hM.2.1
          have hPk := hM.2.2 j hj4
          have ei : ((P j).1 7).toNat = i := by omega
          refine j_iload_n 2 dX11_digest_29 rfl rfl ?_
          refine j_aload_n 0 dX11_digest_30 rfl rfl ?_
          refine j_get fX11_24 dX11_digest_31 hP.1 rfl ?_
          refine j_iload_n 1 dX11_digest_34 rfl rfl ?_
          refine J_qaldM dX11_digest_35 hpa (by rw [Int.toNat_natCast]; exact hFa j hj4) ?_ 
          refine j_getN fX11_99 dX11_digest_36 hPk.1 rfl ?_
          refine J_top ((P j).1 7) ?_ (by exact hmk.1.1)
          refine J_icmp_ge 112 dX11_digest_39 (by decide) (fun c39 => ?_) (fun c39 => absurd c39 (by omega)) 
          refine J_iinc (L' := [(1, _), (2, _), (0, _)]) dX11_digest_112 rfl rfl rfl ?_
          refine j_goto 9 dX11_digest_115 (by decide) ?_
          exact j_locR (ih (j + 1) q h2 (by omega) hM hI (hD.trans (by rw [rpt_s, mixL_app _ (rpt (fun k => ptL (P k) p0) j) (ptL (P j) p0), ← ei]; rfl)) hF) (by repeat' (first | exact True.intro | refine And.intro rfl ?_))
        | succ n2 ih2 =>
          intro i q h2 hi hM hI hD hF
          have hP := hM.1
          obtain ⟨Fa, hpa, hFa⟩ := hM.2.1
          have hPk := hM.2.2 j hj4
          have hin : inP (P j) (i : Int) := ⟨by omega, by omega⟩
          have hin2 : inP (P ((j : Int).toNat)) (i : Int) := by rw [Int.toNat_natCast]; exact hin
          obtain ⟨z0, z1, z2, z3, z4, z5, z6⟩ := hpk.2.1 _ hin.1 hin.2
          have hbf := barF_rg (p0.2 2) ((P j).2 3 i) 24 (by omega)
          refine j_iload_n 2 dX11_digest_29 rfl rfl ?_
          refine j_aload_n 0 dX11_digest_30 rfl rfl ?_
          refine j_get fX11_24 dX11_digest_31 hP.1 rfl ?_
          refine j_iload_n 1 dX11_digest_34 rfl rfl ?_
          refine J_qaldM dX11_digest_35 hpa (by rw [Int.toNat_natCast]; exact hFa j hj4) ?_ 
          refine j_getN fX11_99 dX11_digest_36 hPk.1 rfl ?_
          refine J_top ((P j).1 7) ?_ (by exact hmk.1.1)
          refine J_icmp_ge 112 dX11_digest_39 (by decide) (fun c39 => absurd c39 (by omega)) (fun c39 => ?_) 
          refine j_aload_n 0 dX11_digest_42 rfl rfl ?_
          refine j_aload_n 0 dX11_digest_43 rfl rfl ?_
          refine j_get fX11_24 dX11_digest_44 hP.1 rfl ?_
          refine j_iload_n 1 dX11_digest_47 rfl rfl ?_
          refine J_qaldM dX11_digest_48 hpa (by rw [Int.toNat_natCast]; exact hFa j hj4) ?_ 
          refine j_getN fX11_170 dX11_digest_49 hPk.1 rfl ?_
          refine j_iload_n 2 dX11_digest_52 rfl rfl ?_
          refine J_iald dX11_digest_53 (hPk.2.1 1 rfl) ?_ 
          refine J_top ((P j).2 3 i) ?_ (by exact (hmk.2.1 _ hin.1 hin.2).1)
          refine J_callVW0 kX11_328 cvX11_add_ hP.1 (c_X11_add_ hM hZ hI (by omega)) rfl rfl rfl rfl rfl dX11_digest_54 rfl rfl (fun h hp => ?_)
          obtain ⟨hM, hF9⟩ := hp
          have hF := hF.tr hF9
          have hP := hM.1
          have hD := add30M hD hM
          obtain ⟨Fa, hpa, hFa⟩ := hM.2.1
          have hPk := hM.2.2 j hj4
          refine j_aload_n 0 dX11_digest_57 rfl rfl ?_
          refine j_aload_n 0 dX11_digest_58 rfl rfl ?_
          refine j_iload_n 1 dX11_digest_59 rfl rfl ?_
          refine j_iload_n 2 dX11_digest_60 rfl rfl ?_
          refine J_callV1 kX11_172 cvX11_heightNow hP.1 (c_X11_heightNow hM hZ hI (k := (j : Int)) ⟨by omega, by omega⟩ hin2) rfl rfl rfl rfl rfl dX11_digest_61 rfl rfl ?_
          refine J_top ((P j).2 2 i) ?_ (by rw [Int.toNat_natCast]; exact if_pos hin)
          refine J_callVW0 kX11_328 cvX11_add_ hP.1 (c_X11_add_ hM hZ hI (by omega)) rfl rfl rfl rfl rfl dX11_digest_64 rfl rfl (fun h hp => ?_)
          obtain ⟨hM, hF9⟩ := hp
          have hF := hF.tr hF9
          have hP := hM.1
          have hD := add30M hD hM
          obtain ⟨Fa, hpa, hFa⟩ := hM.2.1
          have hPk := hM.2.2 j hj4
          refine j_aload_n 0 dX11_digest_67 rfl rfl ?_
          refine j_aload_n 0 dX11_digest_68 rfl rfl ?_
          refine j_aload_n 0 dX11_digest_69 rfl rfl ?_
          refine j_get fX11_24 dX11_digest_70 hP.1 rfl ?_
          refine j_iload_n 1 dX11_digest_73 rfl rfl ?_
          refine J_qaldM dX11_digest_74 hpa (by rw [Int.toNat_natCast]; exact hFa j hj4) ?_ 
          refine j_getN fX11_170 dX11_digest_75 hPk.1 rfl ?_
          refine j_iload_n 2 dX11_digest_78 rfl rfl ?_
          refine J_iald dX11_digest_79 (hPk.2.1 1 rfl) ?_ 
          refine J_top ((P j).2 3 i) ?_ (by exact (hmk.2.1 _ hin.1 hin.2).1)
          refine J_callV1 kX11_175 cvX11_barAt hP.1 (c_X11_barAt hM hZ hI (by omega)) rfl rfl rfl rfl rfl dX11_digest_80 rfl rfl ?_
          refine J_callVW0 kX11_328 cvX11_add_ hP.1 (c_X11_add_ hM hZ hI (by omega)) rfl rfl rfl rfl rfl dX11_digest_83 rfl rfl (fun h hp => ?_)
          obtain ⟨hM, hF9⟩ := hp
          have hF := hF.tr hF9
          have hP := hM.1
          have hD := add30M hD hM
          obtain ⟨Fa, hpa, hFa⟩ := hM.2.1
          have hPk := hM.2.2 j hj4
          refine j_aload_n 0 dX11_digest_86 rfl rfl ?_
          refine j_aload_n 0 dX11_digest_87 rfl rfl ?_
          refine j_iload_n 1 dX11_digest_88 rfl rfl ?_
          refine j_iload_n 2 dX11_digest_89 rfl rfl ?_
          refine J_callV1 kX11_184 cvX11_writtenPlaceNow hP.1 (c_X11_writtenPlaceNow hM hZ hI (k := (j : Int)) ⟨by omega, by omega⟩ hin2) rfl rfl rfl rfl rfl dX11_digest_90 rfl rfl ?_
          refine J_top ((P j).2 5 i) ?_ (by rw [Int.toNat_natCast])
          refine J_callVW0 kX11_328 cvX11_add_ hP.1 (c_X11_add_ hM hZ hI (by omega)) rfl rfl rfl rfl rfl dX11_digest_93 rfl rfl (fun h hp => ?_)
          obtain ⟨hM, hF9⟩ := hp
          have hF := hF.tr hF9
          have hP := hM.1
          have hD := add30M hD hM
          obtain ⟨Fa, hpa, hFa⟩ := hM.2.1
          have hPk := hM.2.2 j hj4
          refine j_aload_n 0 dX11_digest_96 rfl rfl ?_
          refine j_aload_n 0 dX11_digest_97 rfl rfl ?_
          refine j_iload_n 1 dX11_digest_98 rfl rfl ?_
          refine j_iload_n 2 dX11_digest_99 rfl rfl ?_
          refine J_callV1 kX11_187 cvX11_writtenAlterNow hP.1 (c_X11_writtenAlterNow hM hZ hI (k := (j : Int)) ⟨by omega, by omega⟩ hin2) rfl rfl rfl rfl rfl dX11_digest_100 rfl rfl ?_
          refine J_top ((P j).2 6 i) ?_ (by rw [Int.toNat_natCast])
          refine J_callVW0 kX11_328 cvX11_add_ hP.1 (c_X11_add_ hM hZ hI (by omega)) rfl rfl rfl rfl rfl dX11_digest_103 rfl rfl (fun h hp => ?_)
          obtain ⟨hM, hF9⟩ := hp
          have hF := hF.tr hF9
          have hP := hM.1
          have hD := add30M hD hM
          obtain ⟨Fa, hpa, hFa⟩ := hM.2.1
          have hPk := hM.2.2 j hj4
          refine J_iinc (L' := [(2, _), (1, _), (0, _)]) dX11_digest_106 rfl rfl rfl ?_
          refine j_goto 29 dX11_digest_109 (by decide) ?_
          exact j_locR (ih2 (i + 1) _ _ (by omega) hM hI (hD.trans (by rw [rpt_s, ← List.append_assoc, mixL_app _ ([(P j).1 7] ++ rpt (evL (P j) p0) i) (evL (P j) p0 i)]; rfl)) hF) (by repeat' (first | exact True.intro | refine And.intro rfl ?_))
      refine j_iload_n 1 dX11_digest_9 rfl rfl ?_
      refine J_iconst dX11_digest_10 ?_
      refine J_icmp_ge 118 dX11_digest_11 (by decide) (fun c11 => absurd c11 (by omega)) (fun c11 => ?_) 
      refine j_aload_n 0 dX11_digest_14 rfl rfl ?_
      refine j_aload_n 0 dX11_digest_15 rfl rfl ?_
      refine j_get fX11_24 dX11_digest_16 hP.1 rfl ?_
      refine j_iload_n 1 dX11_digest_19 rfl rfl ?_
      refine J_qaldM dX11_digest_20 hpa (by rw [Int.toNat_natCast]; exact hFa j hj4) ?_ 
      refine j_getN fX11_99 dX11_digest_21 hPk.1 rfl ?_
      refine J_top ((P j).1 7) ?_ (by exact hmk.1.1)
      refine J_callVW0 kX11_328 cvX11_add_ hP.1 (c_X11_add_ hM hZ hI (by omega)) rfl rfl rfl rfl rfl dX11_digest_24 rfl rfl (fun h hp => ?_)
      obtain ⟨hM, hF9⟩ := hp
      have hF := hF.tr hF9
      have hP := hM.1
      have hD := add30M hD hM
      obtain ⟨Fa, hpa, hFa⟩ := hM.2.1
      refine J_iconst dX11_digest_27 ?_
      refine j_istore_n 2 (L' := [(2, _), (1, _), (0, _)]) dX11_digest_28 rfl rfl rfl ?_
      exact j_locR (evs ((P j).1 7).toNat 0 _ _ (by omega) hM hI hD hF) (by repeat' (first | exact True.intro | refine And.intro rfl ?_))
  refine j_body (by decide +kernel) ⟨rfl, rfl⟩ rfl ?_
  have hP := hM.1
  have hF : Fr (FtM a d) h h := Fr.rf
  obtain ⟨Fa, hpa, hFa⟩ := hM.2.1
  refine j_aload_n 0 dX11_digest_0 rfl rfl ?_
  refine j_ldc2 _ dX11_digest_1 vX11_330 ?_
  rw [I64_d]
  refine J_putLA hP fX11_322 tyX11_sum dX11_digest_4 rfl rfl (fun h hP hF4 => ?_)
  have hM := hM.w hZ hP hF4
  have hF := hF.tr (hF4.mono (fun _ q => Or.inl q))
  refine J_iconst dX11_digest_7 ?_
  refine j_istore_n 1 (L' := [(1, _), (0, _)]) dX11_digest_8 rfl rfl rfl ?_
  exact j_locR (pts 4 0 _ _ (by omega) hM hI (oU_s p 30 2467) hF) (by repeat' (first | exact True.intro | refine And.intro rfl ?_))
