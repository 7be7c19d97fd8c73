/-! a bar: what the law asks of it -/
def bmx (F : Int → Int) : Nat → Int
  | 0 => -1
  | n + 1 => max (bmx F n) (F n)
theorem bmx_rg {F : Int → Int} : ∀ n : Nat, (∀ i : Int, 0 ≤ i → i < n → F i ≤ 128) → -1 ≤ bmx F n ∧ bmx F n ≤ 128
  | 0, _ => ⟨Int.le_refl _, by show (-1 : Int) ≤ 128; decide⟩
  | n + 1, h => by
    have ih := bmx_rg n (fun i a b => h i a (by omega))
    have := h n (by omega) (by omega)
    show -1 ≤ max (bmx F n) (F n) ∧ max (bmx F n) (F n) ≤ 128
    omega
theorem bmx_s (F : Int → Int) {i : Int} (h : 0 ≤ i) : bmx F (i + 1).toNat = max (bmx F i.toNat) (F i) := by
  obtain ⟨k, rfl⟩ := Int.eq_ofNat_of_zero_le h
  rw [show ((k : Int) + 1).toNat = k + 1 by omega, Int.toNat_natCast]
  rfl
/-- M: how many signs a bar has; E: of which event; n: how many events -/
def BarOK (M : Int → Int) (E : Int → Int → Int) (b n : Int) (le be sh sw ti he wp wa : Int → Int) (bm mis Lb Bb : Int) : Prop :=
  (∀ c : Int, isBar c → 0 ≤ M c ∧ M c ≤ 128) ∧ (∀ c i : Int, isBar c → 0 ≤ i → i < M c → 0 ≤ E c i ∧ E c i < n) ∧ n ≤ 512 ∧
  (∀ i : Int, 0 ≤ i → i < M b → (1 ≤ le i ∧ le i ≤ 96) ∧ (-1 ≤ be i ∧ be i ≤ 128) ∧ (-3 ≤ sh i ∧ sh i ≤ 2) ∧ (-3 ≤ sw i ∧ sw i ≤ 2)) ∧
  (∀ e : Int, 0 ≤ e → e < n → (-1 ≤ he e ∧ he e ≤ 200) ∧ (-1 ≤ wp e ∧ wp e ≤ 62) ∧ (-3 ≤ wa e ∧ wa e ≤ 2) ∧ (0 ≤ he e → ((wp e < 0 ∧ wa e = -3) ∨ (0 ≤ wp e ∧ wa e ≠ -3)))) ∧
  (∀ i : Int, 0 ≤ i → i + 1 < M b → (ti i ≠ 0 ↔ 0 ≤ he (E b i) ∧ E b (i + 1) = E b i)) ∧
  (∀ i : Int, 0 ≤ i → i + 1 = M b → (ti i ≠ 0 ↔ 0 ≤ he (E b i) ∧ b < 23 ∧ 0 < M (b + 1) ∧ E (b + 1) 0 = E b i)) ∧
  (∀ i : Int, 0 ≤ i → i < M b → be i ≤ bmx be i.toNat + 1 ∧ (0 ≤ be i → bmx be i.toNat ≤ be i ∧ 0 ≤ he (E b i) ∧ le i ≤ 12)) ∧
  (∀ i : Int, 0 ≤ i → i < M b → he (E b i) < 0 → sh i = -3 ∧ sw i = -3) ∧
  (∀ i : Int, 0 < i → i < M b → E b (i - 1) ≤ E b i) ∧
  mis + sumN le (M b).toNat = Lb ∧ bm = bmx be (M b).toNat + 1 ∧ 2 * b ≤ Bb ∧ (0 ≤ mis ∧ mis ≤ 400) ∧ (0 ≤ Lb ∧ Lb ≤ 400) ∧ Bb ≤ 20000
abbrev barQ (G : jG) (a : Nat) (d : DA) (P : Nat → OS) (p0 : OS) : jF := jQ G zL_isBarSound (jW (oI 1) (DD G a d P p0))
set_option maxRecDepth 100000 in
theorem bar_loop {l : Launch} {G : jG} {a : Nat} {d : DA} {P : Nat → OS} {p0 : OS} {M : Int → Int} {E : Int → Int → Int} {k b n : Int} {le be sh sw ti he wp wa : Int → Int} {bm mis Lb Bb : Int} (hb : isBar b) (hk : 0 ≤ k ∧ k < 4) (rS : ∀ (h : jH) (c : Int), DD G a d P p0 h → isBar c → jC l G yX9_signs mX9_signs [.ref a, vI k, vI c] h (jW (oI (M c)) (DD G a d P p0))) (rE : ∀ (h : jH) (c i : Int), DD G a d P p0 h → isBar c → 0 ≤ i → i < M c → jC l G yX9_eventOf mX9_eventOf [.ref a, vI k, vI c, vI i] h (jW (oI (E c i)) (DD G a d P p0))) (rL : ∀ (h : jH) (i : Int), DD G a d P p0 h → 0 ≤ i → i < M b → jC l G yX9_lengthOf mX9_lengthOf [.ref a, vI k, vI b, vI i] h (jW (oI (le i)) (DD G a d P p0))) (rB : ∀ (h : jH) (i : Int), DD G a d P p0 h → 0 ≤ i → i < M b → jC l G yX9_beamOf mX9_beamOf [.ref a, vI k, vI b, vI i] h (jW (oI (be i)) (DD G a d P p0))) (rT : ∀ (h : jH) (i : Int), DD G a d P p0 h → 0 ≤ i → i < M b → jC l G yX9_isTied mX9_isTied [.ref a, vI k, vI b, vI i] h (jW (oI (bI (ti i ≠ 0))) (DD G a d P p0))) (rSh : ∀ (h : jH) (i : Int), DD G a d P p0 h → 0 ≤ i → i < M b → jC l G yX9_shown mX9_shown [.ref a, vI k, vI b, vI i] h (jW (oI (sh i)) (DD G a d P p0))) (rSw : ∀ (h : jH) (i : Int), DD G a d P p0 h → 0 ≤ i → i < M b → jC l G yX9_shownWritten mX9_shownWritten [.ref a, vI k, vI b, vI i] h (jW (oI (sw i)) (DD G a d P p0))) (rH : ∀ (h : jH) (e : Int), DD G a d P p0 h → 0 ≤ e → e < n → jC l G yX9_heightOf mX9_heightOf [.ref a, vI k, vI e] h (jW (oI (he e)) (DD G a d P p0))) (rP : ∀ (h : jH) (e : Int), DD G a d P p0 h → 0 ≤ e → e < n → jC l G yX9_writtenPlace mX9_writtenPlace [.ref a, vI k, vI e] h (jW (oI (wp e)) (DD G a d P p0))) (rA : ∀ (h : jH) (e : Int), DD G a d P p0 h → 0 ≤ e → e < n → jC l G yX9_writtenAlter mX9_writtenAlter [.ref a, vI k, vI e] h (jW (oI (wa e)) (DD G a d P p0))) (rMi : ∀ (h : jH), DD G a d P p0 h → jC l G yX9_missing mX9_missing [.ref a, vI k, vI b] h (jW (oI (mis)) (DD G a d P p0))) (rBm : ∀ (h : jH), DD G a d P p0 h → jC l G yX9_beams mX9_beams [.ref a, vI k, vI b] h (jW (oI (bm)) (DD G a d P p0))) (rLn : ∀ (h : jH), DD G a d P p0 h → jC l G yX9_lengthOfBar mX9_lengthOfBar [.ref a, vI b] h (jW (oI (Lb)) (DD G a d P p0))) (rBg : ∀ (h : jH), DD G a d P p0 h → jC l G yX9_beginOfBar mX9_beginOfBar [.ref a, vI b] h (jW (oI (Bb)) (DD G a d P p0))) (hB : BarOK M E b n le be sh sw ti he wp wa bm mis Lb Bb) : ∀ (r : Nat) (i x y : Int) (h : jH), i + r = M b → 0 ≤ i → x = bmx be i.toNat → y = mis + sumN le i.toNat → DD G a d P p0 h → J l G zL_isBarSound (barQ G a d P p0) (12 * r + 3) (72 * r + 18) 21 [(6, vI i), (5, vI x), (4, vI y), (3, vI (M b)), (0, .ref a), (1, vI k), (2, vI b)] [] h := by
  obtain ⟨b1, b2, b3, b4, b5, b6, b7, b8, b9, b10, b11, b12, b13, b14, b15, b16⟩ := hB
  have hM := b1 b hb
  have hbx : ∀ j : Nat, (j : Int) ≤ M b → -1 ≤ bmx be j ∧ bmx be j ≤ 128 := fun j hj => bmx_rg j (fun i u v => (b4 i u (by omega)).2.1.2)
  have hsx : ∀ j : Nat, (j : Int) ≤ M b → 0 ≤ sumN le j ∧ sumN le j ≤ 96 * j := fun j hj => sumN_rg (f := le) (c := 96) j (fun i u v => by have := (b4 i u (by omega)).1; omega)
  intro r
  induction r with
  | zero =>
    intro i x y h hi h0 hx hy hD
    obtain rfl : i = M b := by omega
    have g1 := hbx (M b).toNat (by omega)
    rw [b11] at hy
    rw [← hx] at b12 g1
    subst hy
    refine j_iload dL_isBarSound_21 rfl ?_
    refine j_iload_n 3 dL_isBarSound_23 rfl rfl ?_
    refine J_icmp_ge 343 dL_isBarSound_24 (by decide) (fun c24 => ?_) (fun c24 => absurd c24 (by omega)) (by omega)
    refine j_iload dL_isBarSound_343 rfl ?_
    refine j_aload_n 0 dL_isBarSound_345 rfl rfl ?_
    refine j_iload_n 2 dL_isBarSound_346 rfl rfl ?_
    refine J_rd (ck' := 2) (sk' := 12) kL_115 cvX9_lengthOfBar hD (rLn h hD) rfl rfl rfl rfl rfl dL_isBarSound_347 (by show 1 + _ ≤ _; omega) (by show 6 + _ ≤ _; omega) (fun h hD => ?_)
    refine J_icmp_ne 381 dL_isBarSound_350 (by decide) (fun c350 => absurd c350 (by omega)) (fun c350 => ?_) (by omega)
    refine j_aload_n 0 dL_isBarSound_353 rfl rfl ?_
    refine j_iload_n 1 dL_isBarSound_354 rfl rfl ?_
    refine j_iload_n 2 dL_isBarSound_355 rfl rfl ?_
    refine J_rd (ck' := 1) (sk' := 6) kL_118 cvX9_beams hD (rBm h hD) rfl rfl rfl rfl rfl dL_isBarSound_356 (by show 1 + _ ≤ _; omega) (by show 6 + _ ≤ _; omega) (fun h hD => ?_)
    refine j_iload dL_isBarSound_359 rfl ?_
    refine J_iconst dL_isBarSound_361 ?_
    refine J_iadd dL_isBarSound_362 ?_
    refine J_icmp_ne 381 dL_isBarSound_363 (by decide) (fun c363 => absurd c363 (by omega)) (fun c363 => ?_) (by omega)
    refine j_aload_n 0 dL_isBarSound_366 rfl rfl ?_
    refine j_iload_n 2 dL_isBarSound_367 rfl rfl ?_
    refine J_rd (ck' := 0) (sk' := 0) kL_121 cvX9_beginOfBar hD (rBg h hD) rfl rfl rfl rfl rfl dL_isBarSound_368 (by show 1 + _ ≤ _; omega) (by show 6 + _ ≤ _; omega) (fun h hD => ?_)
    refine J_iconst dL_isBarSound_371 ?_
    refine j_iload_n 2 dL_isBarSound_372 rfl rfl ?_
    refine J_imul dL_isBarSound_373 ?_
    refine J_icmp_lt 381 dL_isBarSound_374 (by decide) (fun c374 => absurd c374 (by omega)) (fun c374 => ?_) (by omega)
    refine J_iconst dL_isBarSound_377 ?_
    refine j_goto 382 dL_isBarSound_378 (by decide) ?_
    exact j_zret rfl rfl dL_isBarSound_382 ⟨rfl, hD⟩
  | succ r ih =>
    intro i x y h hi h0 hx hy hD
    have him : i < M b := by omega
    obtain ⟨q1, q2, q3, q4⟩ := b4 i h0 him
    have qe := b2 b i hb h0 him
    obtain ⟨q5, q6, q7, q8⟩ := b5 (E b i) qe.1 qe.2
    obtain ⟨q9, q10⟩ := b8 i h0 him
    have q11 := b9 i h0 him
    have q12 := b10 i
    have g1 := hbx i.toNat (by omega)
    have g2 := hsx i.toNat (by omega)
    rw [← hx] at q9 q10 g1
    obtain ⟨go, hgo⟩ : ∃ go : Prop, (ti i ≠ 0 ↔ 0 ≤ he (E b i) ∧ go) ∧ (i + 1 < M b → (go ↔ E b (i + 1) = E b i)) ∧ (i + 1 = M b → (go ↔ b < 23 ∧ 0 < M (b + 1) ∧ E (b + 1) 0 = E b i)) := by
      by_cases z : i + 1 < M b
      · exact ⟨_, b6 i h0 z, fun _ => Iff.rfl, fun z2 => absurd z (by omega)⟩
      · exact ⟨_, b7 i h0 (by omega), fun z2 => absurd z2 z, fun _ => Iff.rfl⟩
    obtain ⟨hgT, hgA, hgB⟩ := hgo
    obtain ⟨nt, hnt⟩ : ∃ nt : Int, (nt = 1 ∧ 0 ≤ he (E b i)) ∨ (nt = 0 ∧ he (E b i) < 0) := by
      by_cases z : 0 ≤ he (E b i)
      · exact ⟨1, Or.inl ⟨rfl, z⟩⟩
      · exact ⟨0, Or.inr ⟨rfl, by omega⟩⟩
    have ex : max x (be i) = bmx be (i + 1).toNat := by rw [bmx_s be h0, hx]
    have ey : y + le i = mis + sumN le (i + 1).toNat := by rw [sumN_succ h0, hy]; omega
    have K337 : ∀ (h : jH), DD G a d P p0 h → J l G zL_isBarSound (barQ G a d P p0) (12 * r + 3) (72 * r + 18) 337 [(6, vI i), (5, vI (max x (be i))), (4, vI (y + le i)), (3, vI (M b)), (0, .ref a), (1, vI k), (2, vI b)] [] h := by
      intro h hD
      refine J_iinc (L' := [(6, _), (5, _), (4, _), (3, _), (0, _), (1, _), (2, _)]) dL_isBarSound_337 rfl rfl rfl ?_
      refine j_goto 21 dL_isBarSound_340 (by decide) ?_
      exact j_locR (ih (i + 1) (max x (be i)) (y + le i) h (by omega) (by omega) ex ey hD) (by repeat' (first | exact True.intro | refine And.intro rfl ?_))
    have K295 : ∀ (h : jH), DD G a d P p0 h → J l G zL_isBarSound (barQ G a d P p0) (12 * r + 5) (72 * r + 30) 295 [(6, vI i), (5, vI (max x (be i))), (4, vI (y + le i)), (3, vI (M b)), (0, .ref a), (1, vI k), (2, vI b), (7, vI (E b i)), (9, vI nt)] [] h := by
      intro h hD
      rcases hnt with ⟨n1, n2⟩ | ⟨n1, n2⟩
      · refine j_iload dL_isBarSound_295 rfl ?_
        refine J_if_eq 337 dL_isBarSound_297 (by decide) (fun c297 => absurd c297 (by omega)) (fun c297 => ?_) (by omega)
        refine j_aload_n 0 dL_isBarSound_300 rfl rfl ?_
        refine j_iload_n 1 dL_isBarSound_301 rfl rfl ?_
        refine j_iload dL_isBarSound_302 rfl ?_
        refine J_rd (ck' := 12 * r + 3 + 1) (sk' := 72 * r + 18 + 6) kL_109 cvX9_writtenPlace hD (rP h (E b i) hD qe.1 qe.2) rfl rfl rfl rfl rfl dL_isBarSound_304 (by show 1 + _ ≤ _; omega) (by show 6 + _ ≤ _; omega) (fun h hD => ?_)
        rcases q8 n2 with ⟨u1, u2⟩ | ⟨u1, u2⟩
        · refine J_if_ge 314 dL_isBarSound_307 (by decide) (fun c307 => absurd c307 (by omega)) (fun c307 => ?_) (by omega)
          refine J_iconst dL_isBarSound_310 ?_
          refine j_goto 315 dL_isBarSound_311 (by decide) ?_
          refine j_aload_n 0 dL_isBarSound_315 rfl rfl ?_
          refine j_iload_n 1 dL_isBarSound_316 rfl rfl ?_
          refine j_iload dL_isBarSound_317 rfl ?_
          refine J_rd (ck' := 12 * r + 3 + 0) (sk' := 72 * r + 18 + 0) kL_112 cvX9_writtenAlter hD (rA h (E b i) hD qe.1 qe.2) rfl rfl rfl rfl rfl dL_isBarSound_319 (by show 1 + _ ≤ _; omega) (by show 6 + _ ≤ _; omega) (fun h hD => ?_)
          refine J_bipush dL_isBarSound_322 (by decide) ?_
          refine J_icmp_ne 331 dL_isBarSound_324 (by decide) (fun c324 => absurd c324 (by omega)) (fun c324 => ?_) (by omega)
          refine J_iconst dL_isBarSound_327 ?_
          refine j_goto 332 dL_isBarSound_328 (by decide) ?_
          refine J_icmp_eq 337 dL_isBarSound_332 (by decide) (fun c332 => ?_) (fun c332 => absurd c332 (by omega)) (by omega)
          refine j_room (ck' := 12 * r + 3) (sk' := 72 * r + 18) (by omega) (by omega) ?_
          exact j_locR (K337 h hD) (by repeat' (first | exact True.intro | refine And.intro rfl ?_))
        · refine J_if_ge 314 dL_isBarSound_307 (by decide) (fun c307 => ?_) (fun c307 => absurd c307 (by omega)) (by omega)
          refine J_iconst dL_isBarSound_314 ?_
          refine j_aload_n 0 dL_isBarSound_315 rfl rfl ?_
          refine j_iload_n 1 dL_isBarSound_316 rfl rfl ?_
          refine j_iload dL_isBarSound_317 rfl ?_
          refine J_rd (ck' := 12 * r + 3 + 0) (sk' := 72 * r + 18 + 0) kL_112 cvX9_writtenAlter hD (rA h (E b i) hD qe.1 qe.2) rfl rfl rfl rfl rfl dL_isBarSound_319 (by show 1 + _ ≤ _; omega) (by show 6 + _ ≤ _; omega) (fun h hD => ?_)
          refine J_bipush dL_isBarSound_322 (by decide) ?_
          refine J_icmp_ne 331 dL_isBarSound_324 (by decide) (fun c324 => ?_) (fun c324 => absurd c324 (by omega)) (by omega)
          refine J_iconst dL_isBarSound_331 ?_
          refine J_icmp_eq 337 dL_isBarSound_332 (by decide) (fun c332 => ?_) (fun c332 => absurd c332 (by omega)) (by omega)
          refine j_room (ck' := 12 * r + 3) (sk' := 72 * r + 18) (by omega) (by omega) ?_
          exact j_locR (K337 h hD) (by repeat' (first | exact True.intro | refine And.intro rfl ?_))
      · refine j_iload dL_isBarSound_295 rfl ?_
        refine J_if_eq 337 dL_isBarSound_297 (by decide) (fun c297 => ?_) (fun c297 => absurd c297 (by omega)) (by omega)
        refine j_room (ck' := 12 * r + 3) (sk' := 72 * r + 18) (by omega) (by omega) ?_
        exact j_locR (K337 h hD) (by repeat' (first | exact True.intro | refine And.intro rfl ?_))
    have K273 : ∀ (h : jH), DD G a d P p0 h → J l G zL_isBarSound (barQ G a d P p0) (12 * r + 6) (72 * r + 36) 273 [(6, vI i), (5, vI (max x (be i))), (4, vI (y + le i)), (3, vI (M b)), (0, .ref a), (1, vI k), (2, vI b), (7, vI (E b i)), (9, vI nt)] [] h := by
      intro h hD
      refine j_iload dL_isBarSound_273 rfl ?_
      refine J_if_le 295 dL_isBarSound_275 (by decide) (fun c275 => ?_) (fun c275 => ?_) (by omega)
      · refine j_room (ck' := 12 * r + 5) (sk' := 72 * r + 30) (by omega) (by omega) ?_
        exact j_locR (K295 h hD) (by repeat' (first | exact True.intro | refine And.intro rfl ?_))
      · have q13 := q12 (by omega) him
        have q14 := b2 b (i - 1) hb (by omega) (by omega)
        refine j_iload dL_isBarSound_278 rfl ?_
        refine j_aload_n 0 dL_isBarSound_280 rfl rfl ?_
        refine j_iload_n 1 dL_isBarSound_281 rfl rfl ?_
        refine j_iload_n 2 dL_isBarSound_282 rfl rfl ?_
        refine j_iload dL_isBarSound_283 rfl ?_
        refine J_iconst dL_isBarSound_285 ?_
        refine J_isub dL_isBarSound_286 ?_
        refine J_rd (ck' := 12 * r + 3 + 2) (sk' := 72 * r + 18 + 12) kL_87 cvX9_eventOf hD (rE h b (i - 1) hD hb (by omega) (by omega)) rfl rfl rfl rfl rfl dL_isBarSound_287 (by show 1 + _ ≤ _; omega) (by show 6 + _ ≤ _; omega) (fun h hD => ?_)
        refine J_icmp_ge 295 dL_isBarSound_290 (by decide) (fun c290 => ?_) (fun c290 => absurd c290 (by omega)) (by omega)
        refine j_room (ck' := 12 * r + 5) (sk' := 72 * r + 30) (by omega) (by omega) ?_
        exact j_locR (K295 h hD) (by repeat' (first | exact True.intro | refine And.intro rfl ?_))
    have K216 : ∀ (h : jH), DD G a d P p0 h → J l G zL_isBarSound (barQ G a d P p0) (12 * r + 8) (72 * r + 48) 216 [(6, vI i), (5, vI x), (4, vI (y + le i)), (3, vI (M b)), (0, .ref a), (1, vI k), (2, vI b), (7, vI (E b i)), (8, vI (le i)), (9, vI nt), (10, vI (be i))] [] h := by
      intro h hD
      rcases hnt with ⟨n1, n2⟩ | ⟨n1, n2⟩
      · refine j_iload dL_isBarSound_216 rfl ?_
        refine j_iload dL_isBarSound_218 rfl ?_
        refine J_mmax kL_65 rfl rfl dL_isBarSound_220 ?_ (by omega)
        refine j_istore (L' := [(5, _), (6, _), (4, _), (3, _), (0, _), (1, _), (2, _), (7, _), (8, _), (9, _), (10, _)]) dL_isBarSound_223 rfl rfl ?_
        refine j_aload_n 0 dL_isBarSound_225 rfl rfl ?_
        refine j_iload_n 1 dL_isBarSound_226 rfl rfl ?_
        refine j_iload_n 2 dL_isBarSound_227 rfl rfl ?_
        refine j_iload dL_isBarSound_228 rfl ?_
        refine J_rd (ck' := 12 * r + 3 + 4) (sk' := 72 * r + 18 + 24) kL_103 cvX9_shown hD (rSh h i hD h0 him) rfl rfl rfl rfl rfl dL_isBarSound_230 (by show 1 + _ ≤ _; omega) (by show 6 + _ ≤ _; omega) (fun h hD => ?_)
        refine j_istore (L' := [(12, _), (5, _), (6, _), (4, _), (3, _), (0, _), (1, _), (2, _), (7, _), (8, _), (9, _), (10, _)]) dL_isBarSound_233 rfl rfl ?_
        refine j_iload dL_isBarSound_235 rfl ?_
        refine J_bipush dL_isBarSound_237 (by decide) ?_
        refine J_icmp_lt 293 dL_isBarSound_239 (by decide) (fun c239 => absurd c239 (by omega)) (fun c239 => ?_) (by omega)
        refine j_iload dL_isBarSound_242 rfl ?_
        refine J_iconst dL_isBarSound_244 ?_
        refine J_icmp_gt 293 dL_isBarSound_245 (by decide) (fun c245 => absurd c245 (by omega)) (fun c245 => ?_) (by omega)
        refine j_iload dL_isBarSound_248 rfl ?_
        refine J_if_ne 273 dL_isBarSound_250 (by decide) (fun c250 => ?_) (fun c250 => absurd c250 (by omega)) (by omega)
        refine j_room (ck' := 12 * r + 6) (sk' := 72 * r + 36) (by omega) (by omega) ?_
        exact j_locR (K273 h hD) (by repeat' (first | exact True.intro | refine And.intro rfl ?_))
      · have q13 := q11 n2
        refine j_iload dL_isBarSound_216 rfl ?_
        refine j_iload dL_isBarSound_218 rfl ?_
        refine J_mmax kL_65 rfl rfl dL_isBarSound_220 ?_ (by omega)
        refine j_istore (L' := [(5, _), (6, _), (4, _), (3, _), (0, _), (1, _), (2, _), (7, _), (8, _), (9, _), (10, _)]) dL_isBarSound_223 rfl rfl ?_
        refine j_aload_n 0 dL_isBarSound_225 rfl rfl ?_
        refine j_iload_n 1 dL_isBarSound_226 rfl rfl ?_
        refine j_iload_n 2 dL_isBarSound_227 rfl rfl ?_
        refine j_iload dL_isBarSound_228 rfl ?_
        refine J_rd (ck' := 12 * r + 3 + 4) (sk' := 72 * r + 18 + 24) kL_103 cvX9_shown hD (rSh h i hD h0 him) rfl rfl rfl rfl rfl dL_isBarSound_230 (by show 1 + _ ≤ _; omega) (by show 6 + _ ≤ _; omega) (fun h hD => ?_)
        refine j_istore (L' := [(12, _), (5, _), (6, _), (4, _), (3, _), (0, _), (1, _), (2, _), (7, _), (8, _), (9, _), (10, _)]) dL_isBarSound_233 rfl rfl ?_
        refine j_iload dL_isBarSound_235 rfl ?_
        refine J_bipush dL_isBarSound_237 (by decide) ?_
        refine J_icmp_lt 293 dL_isBarSound_239 (by decide) (fun c239 => absurd c239 (by omega)) (fun c239 => ?_) (by omega)
        refine j_iload dL_isBarSound_242 rfl ?_
        refine J_iconst dL_isBarSound_244 ?_
        refine J_icmp_gt 293 dL_isBarSound_245 (by decide) (fun c245 => absurd c245 (by omega)) (fun c245 => ?_) (by omega)
        refine j_iload dL_isBarSound_248 rfl ?_
        refine J_if_ne 273 dL_isBarSound_250 (by decide) (fun c250 => absurd c250 (by omega)) (fun c250 => ?_) (by omega)
        refine j_iload dL_isBarSound_253 rfl ?_
        refine J_bipush dL_isBarSound_255 (by decide) ?_
        refine J_icmp_ne 293 dL_isBarSound_257 (by decide) (fun c257 => absurd c257 (by omega)) (fun c257 => ?_) (by omega)
        refine j_aload_n 0 dL_isBarSound_260 rfl rfl ?_
        refine j_iload_n 1 dL_isBarSound_261 rfl rfl ?_
        refine j_iload_n 2 dL_isBarSound_262 rfl rfl ?_
        refine j_iload dL_isBarSound_263 rfl ?_
        refine J_rd (ck' := 12 * r + 3 + 3) (sk' := 72 * r + 18 + 18) kL_106 cvX9_shownWritten hD (rSw h i hD h0 him) rfl rfl rfl rfl rfl dL_isBarSound_265 (by show 1 + _ ≤ _; omega) (by show 6 + _ ≤ _; omega) (fun h hD => ?_)
        refine J_bipush dL_isBarSound_268 (by decide) ?_
        refine J_icmp_ne 293 dL_isBarSound_270 (by decide) (fun c270 => absurd c270 (by omega)) (fun c270 => ?_) (by omega)
        refine j_room (ck' := 12 * r + 6) (sk' := 72 * r + 36) (by omega) (by omega) ?_
        exact j_locR (K273 h hD) (by repeat' (first | exact True.intro | refine And.intro rfl ?_))
    have K176 : ∀ (h : jH), DD G a d P p0 h → J l G zL_isBarSound (barQ G a d P p0) (12 * r + 8) (72 * r + 48) 176 [(6, vI i), (5, vI x), (4, vI (y + le i)), (3, vI (M b)), (0, .ref a), (1, vI k), (2, vI b), (7, vI (E b i)), (8, vI (le i)), (9, vI nt), (10, vI (be i))] [] h := by
      intro h hD
      by_cases z9 : 0 ≤ be i
      · have q13 := q10 z9
        refine j_iload dL_isBarSound_176 rfl ?_
        refine J_if_lt 193 dL_isBarSound_178 (by decide) (fun c178 => absurd c178 (by omega)) (fun c178 => ?_) (by omega)
        refine j_iload dL_isBarSound_181 rfl ?_
        refine J_if_eq 214 dL_isBarSound_183 (by decide) (fun c183 => absurd c183 (by omega)) (fun c183 => ?_) (by omega)
        refine j_iload dL_isBarSound_186 rfl ?_
        refine J_bipush dL_isBarSound_188 (by decide) ?_
        refine J_icmp_gt 214 dL_isBarSound_190 (by decide) (fun c190 => absurd c190 (by omega)) (fun c190 => ?_) (by omega)
        refine j_iload dL_isBarSound_193 rfl ?_
        refine j_iload dL_isBarSound_195 rfl ?_
        refine J_iconst dL_isBarSound_197 ?_
        refine J_iadd dL_isBarSound_198 ?_
        refine J_icmp_gt 214 dL_isBarSound_199 (by decide) (fun c199 => absurd c199 (by omega)) (fun c199 => ?_) (by omega)
        refine j_iload dL_isBarSound_202 rfl ?_
        refine J_if_lt 216 dL_isBarSound_204 (by decide) (fun c204 => absurd c204 (by omega)) (fun c204 => ?_) (by omega)
        refine j_iload dL_isBarSound_207 rfl ?_
        refine j_iload dL_isBarSound_209 rfl ?_
        refine J_icmp_ge 216 dL_isBarSound_211 (by decide) (fun c211 => ?_) (fun c211 => absurd c211 (by omega)) (by omega)
        refine j_room (ck' := 12 * r + 8) (sk' := 72 * r + 48) (by omega) (by omega) ?_
        exact j_locR (K216 h hD) (by repeat' (first | exact True.intro | refine And.intro rfl ?_))
      · refine j_iload dL_isBarSound_176 rfl ?_
        refine J_if_lt 193 dL_isBarSound_178 (by decide) (fun c178 => ?_) (fun c178 => absurd c178 (by omega)) (by omega)
        refine j_iload dL_isBarSound_193 rfl ?_
        refine j_iload dL_isBarSound_195 rfl ?_
        refine J_iconst dL_isBarSound_197 ?_
        refine J_iadd dL_isBarSound_198 ?_
        refine J_icmp_gt 214 dL_isBarSound_199 (by decide) (fun c199 => absurd c199 (by omega)) (fun c199 => ?_) (by omega)
        refine j_iload dL_isBarSound_202 rfl ?_
        refine J_if_lt 216 dL_isBarSound_204 (by decide) (fun c204 => ?_) (fun c204 => absurd c204 (by omega)) (by omega)
        refine j_room (ck' := 12 * r + 8) (sk' := 72 * r + 48) (by omega) (by omega) ?_
        exact j_locR (K216 h hD) (by repeat' (first | exact True.intro | refine And.intro rfl ?_))
    have K148 : ∀ (h : jH) (g : Int), ((g = 1 ∧ go) ∨ (g = 0 ∧ ¬ go)) → DD G a d P p0 h → J l G zL_isBarSound (barQ G a d P p0) (12 * r + 9) (72 * r + 54) 148 [(6, vI i), (5, vI x), (4, vI (y + le i)), (3, vI (M b)), (0, .ref a), (1, vI k), (2, vI b), (7, vI (E b i)), (8, vI (le i)), (9, vI nt), (10, vI (be i))] [vI g] h := by
      intro h g hg hD
      rcases hnt with ⟨n1, n2⟩ | ⟨n1, n2⟩
      · rcases hg with ⟨u1, u2⟩ | ⟨u1, u2⟩
        · refine j_istore (L' := [(11, _), (6, _), (5, _), (4, _), (3, _), (0, _), (1, _), (2, _), (7, _), (8, _), (9, _), (10, _)]) dL_isBarSound_148 rfl rfl ?_
          refine j_aload_n 0 dL_isBarSound_150 rfl rfl ?_
          refine j_iload_n 1 dL_isBarSound_151 rfl rfl ?_
          refine j_iload_n 2 dL_isBarSound_152 rfl rfl ?_
          refine j_iload dL_isBarSound_153 rfl ?_
          refine J_rd (ck' := 12 * r + 3 + 5) (sk' := 72 * r + 18 + 30) kL_99 cvX9_isTied hD (rT h i hD h0 him) rfl rfl rfl rfl rfl dL_isBarSound_155 (by show 1 + _ ≤ _; omega) (by show 6 + _ ≤ _; omega) (fun h hD => ?_)
          rw [show bI (ti i ≠ 0) = 1 from if_pos (hgT.mpr ⟨n2, u2⟩)]
          refine j_iload dL_isBarSound_158 rfl ?_
          refine J_if_eq 172 dL_isBarSound_160 (by decide) (fun c160 => absurd c160 (by omega)) (fun c160 => ?_) (by omega)
          refine j_iload dL_isBarSound_163 rfl ?_
          refine J_if_eq 172 dL_isBarSound_165 (by decide) (fun c165 => absurd c165 (by omega)) (fun c165 => ?_) (by omega)
          refine J_iconst dL_isBarSound_168 ?_
          refine j_goto 173 dL_isBarSound_169 (by decide) ?_
          refine J_icmp_ne 214 dL_isBarSound_173 (by decide) (fun c173 => absurd c173 (by omega)) (fun c173 => ?_) (by omega)
          refine j_room (ck' := 12 * r + 8) (sk' := 72 * r + 48) (by omega) (by omega) ?_
          exact j_locR (K176 h hD) (by repeat' (first | exact True.intro | refine And.intro rfl ?_))
        · refine j_istore (L' := [(11, _), (6, _), (5, _), (4, _), (3, _), (0, _), (1, _), (2, _), (7, _), (8, _), (9, _), (10, _)]) dL_isBarSound_148 rfl rfl ?_
          refine j_aload_n 0 dL_isBarSound_150 rfl rfl ?_
          refine j_iload_n 1 dL_isBarSound_151 rfl rfl ?_
          refine j_iload_n 2 dL_isBarSound_152 rfl rfl ?_
          refine j_iload dL_isBarSound_153 rfl ?_
          refine J_rd (ck' := 12 * r + 3 + 5) (sk' := 72 * r + 18 + 30) kL_99 cvX9_isTied hD (rT h i hD h0 him) rfl rfl rfl rfl rfl dL_isBarSound_155 (by show 1 + _ ≤ _; omega) (by show 6 + _ ≤ _; omega) (fun h hD => ?_)
          rw [show bI (ti i ≠ 0) = 0 from if_neg (fun z => u2 (hgT.mp z).2)]
          refine j_iload dL_isBarSound_158 rfl ?_
          refine J_if_eq 172 dL_isBarSound_160 (by decide) (fun c160 => absurd c160 (by omega)) (fun c160 => ?_) (by omega)
          refine j_iload dL_isBarSound_163 rfl ?_
          refine J_if_eq 172 dL_isBarSound_165 (by decide) (fun c165 => ?_) (fun c165 => absurd c165 (by omega)) (by omega)
          refine J_iconst dL_isBarSound_172 ?_
          refine J_icmp_ne 214 dL_isBarSound_173 (by decide) (fun c173 => absurd c173 (by omega)) (fun c173 => ?_) (by omega)
          refine j_room (ck' := 12 * r + 8) (sk' := 72 * r + 48) (by omega) (by omega) ?_
          exact j_locR (K176 h hD) (by repeat' (first | exact True.intro | refine And.intro rfl ?_))
      · refine j_istore (L' := [(11, _), (6, _), (5, _), (4, _), (3, _), (0, _), (1, _), (2, _), (7, _), (8, _), (9, _), (10, _)]) dL_isBarSound_148 rfl rfl ?_
        refine j_aload_n 0 dL_isBarSound_150 rfl rfl ?_
        refine j_iload_n 1 dL_isBarSound_151 rfl rfl ?_
        refine j_iload_n 2 dL_isBarSound_152 rfl rfl ?_
        refine j_iload dL_isBarSound_153 rfl ?_
        refine J_rd (ck' := 12 * r + 3 + 5) (sk' := 72 * r + 18 + 30) kL_99 cvX9_isTied hD (rT h i hD h0 him) rfl rfl rfl rfl rfl dL_isBarSound_155 (by show 1 + _ ≤ _; omega) (by show 6 + _ ≤ _; omega) (fun h hD => ?_)
        rw [show bI (ti i ≠ 0) = 0 from if_neg (fun z => absurd (hgT.mp z).1 (by omega))]
        refine j_iload dL_isBarSound_158 rfl ?_
        refine J_if_eq 172 dL_isBarSound_160 (by decide) (fun c160 => ?_) (fun c160 => absurd c160 (by omega)) (by omega)
        refine J_iconst dL_isBarSound_172 ?_
        refine J_icmp_ne 214 dL_isBarSound_173 (by decide) (fun c173 => absurd c173 (by omega)) (fun c173 => ?_) (by omega)
        refine j_room (ck' := 12 * r + 8) (sk' := 72 * r + 48) (by omega) (by omega) ?_
        exact j_locR (K176 h hD) (by repeat' (first | exact True.intro | refine And.intro rfl ?_))
    rcases hnt with ⟨n1, n2⟩ | ⟨n1, n2⟩
    · subst n1
      refine j_iload dL_isBarSound_21 rfl ?_
      refine j_iload_n 3 dL_isBarSound_23 rfl rfl ?_
      refine J_icmp_ge 343 dL_isBarSound_24 (by decide) (fun c24 => absurd c24 (by omega)) (fun c24 => ?_) (by omega)
      refine j_aload_n 0 dL_isBarSound_27 rfl rfl ?_
      refine j_iload_n 1 dL_isBarSound_28 rfl rfl ?_
      refine j_iload_n 2 dL_isBarSound_29 rfl rfl ?_
      refine j_iload dL_isBarSound_30 rfl ?_
      refine J_rd (ck' := 12 * r + 3 + 11) (sk' := 72 * r + 18 + 66) kL_87 cvX9_eventOf hD (rE h b i hD hb h0 him) rfl rfl rfl rfl rfl dL_isBarSound_32 (by show 1 + _ ≤ _; omega) (by show 6 + _ ≤ _; omega) (fun h hD => ?_)
      refine j_istore (L' := [(7, _), (6, _), (5, _), (4, _), (3, _), (0, _), (1, _), (2, _)]) dL_isBarSound_35 rfl rfl ?_
      refine j_aload_n 0 dL_isBarSound_37 rfl rfl ?_
      refine j_iload_n 1 dL_isBarSound_38 rfl rfl ?_
      refine j_iload_n 2 dL_isBarSound_39 rfl rfl ?_
      refine j_iload dL_isBarSound_40 rfl ?_
      refine J_rd (ck' := 12 * r + 3 + 10) (sk' := 72 * r + 18 + 60) kL_90 cvX9_lengthOf hD (rL h i hD h0 him) rfl rfl rfl rfl rfl dL_isBarSound_42 (by show 1 + _ ≤ _; omega) (by show 6 + _ ≤ _; omega) (fun h hD => ?_)
      refine j_istore (L' := [(8, _), (7, _), (6, _), (5, _), (4, _), (3, _), (0, _), (1, _), (2, _)]) dL_isBarSound_45 rfl rfl ?_
      refine j_aload_n 0 dL_isBarSound_47 rfl rfl ?_
      refine j_iload_n 1 dL_isBarSound_48 rfl rfl ?_
      refine j_iload dL_isBarSound_49 rfl ?_
      refine J_rd (ck' := 12 * r + 3 + 9) (sk' := 72 * r + 18 + 54) kL_93 cvX9_heightOf hD (rH h (E b i) hD qe.1 qe.2) rfl rfl rfl rfl rfl dL_isBarSound_51 (by show 1 + _ ≤ _; omega) (by show 6 + _ ≤ _; omega) (fun h hD => ?_)
      refine J_if_lt 61 dL_isBarSound_54 (by decide) (fun c54 => absurd c54 (by omega)) (fun c54 => ?_) (by omega)
      refine J_iconst dL_isBarSound_57 ?_
      refine j_goto 62 dL_isBarSound_58 (by decide) ?_
      refine j_istore (L' := [(9, _), (8, _), (7, _), (6, _), (5, _), (4, _), (3, _), (0, _), (1, _), (2, _)]) dL_isBarSound_62 rfl rfl ?_
      refine j_aload_n 0 dL_isBarSound_64 rfl rfl ?_
      refine j_iload_n 1 dL_isBarSound_65 rfl rfl ?_
      refine j_iload_n 2 dL_isBarSound_66 rfl rfl ?_
      refine j_iload dL_isBarSound_67 rfl ?_
      refine J_rd (ck' := 12 * r + 3 + 8) (sk' := 72 * r + 18 + 48) kL_96 cvX9_beamOf hD (rB h i hD h0 him) rfl rfl rfl rfl rfl dL_isBarSound_69 (by show 1 + _ ≤ _; omega) (by show 6 + _ ≤ _; omega) (fun h hD => ?_)
      refine j_istore (L' := [(10, _), (9, _), (8, _), (7, _), (6, _), (5, _), (4, _), (3, _), (0, _), (1, _), (2, _)]) dL_isBarSound_72 rfl rfl ?_
      refine j_iload dL_isBarSound_74 rfl ?_
      refine j_iload dL_isBarSound_76 rfl ?_
      refine J_iadd dL_isBarSound_78 ?_
      refine j_istore (L' := [(4, _), (10, _), (9, _), (8, _), (7, _), (6, _), (5, _), (3, _), (0, _), (1, _), (2, _)]) dL_isBarSound_79 rfl rfl ?_
      refine j_iload dL_isBarSound_81 rfl ?_
      refine J_iconst dL_isBarSound_83 ?_
      refine J_iadd dL_isBarSound_84 ?_
      refine j_iload_n 3 dL_isBarSound_85 rfl rfl ?_
      refine J_icmp_ge 112 dL_isBarSound_86 (by decide) (fun c86 => ?_) (fun c86 => ?_) (by omega)
      · refine j_iload_n 2 dL_isBarSound_112 rfl rfl ?_
        refine J_bipush dL_isBarSound_113 (by decide) ?_
        refine J_icmp_ge 147 dL_isBarSound_115 (by decide) (fun c115 => ?_) (fun c115 => ?_) (by omega)
        · refine J_iconst dL_isBarSound_147 ?_
          refine j_room (ck' := 12 * r + 9) (sk' := 72 * r + 54) (by omega) (by omega) ?_
          exact j_locR (K148 h 0 (Or.inr ⟨rfl, fun z => absurd ((hgB (by omega)).mp z).1 (by omega)⟩) hD) (by repeat' (first | exact True.intro | refine And.intro rfl ?_))
        · have u1 := b1 (b + 1) ⟨by omega, by omega⟩
          refine j_aload_n 0 dL_isBarSound_118 rfl rfl ?_
          refine j_iload_n 1 dL_isBarSound_119 rfl rfl ?_
          refine j_iload_n 2 dL_isBarSound_120 rfl rfl ?_
          refine J_iconst dL_isBarSound_121 ?_
          refine J_iadd dL_isBarSound_122 ?_
          refine J_rd (ck' := 12 * r + 3 + 7) (sk' := 72 * r + 18 + 42) kL_81 cvX9_signs hD (rS h (b + 1) hD ⟨by omega, by omega⟩) rfl rfl rfl rfl rfl dL_isBarSound_123 (by show 1 + _ ≤ _; omega) (by show 6 + _ ≤ _; omega) (fun h hD => ?_)
          refine J_if_le 147 dL_isBarSound_126 (by decide) (fun c126 => ?_) (fun c126 => ?_) (by omega)
          · refine J_iconst dL_isBarSound_147 ?_
            refine j_room (ck' := 12 * r + 9) (sk' := 72 * r + 54) (by omega) (by omega) ?_
            exact j_locR (K148 h 0 (Or.inr ⟨rfl, fun z => absurd ((hgB (by omega)).mp z).2.1 (by omega)⟩) hD) (by repeat' (first | exact True.intro | refine And.intro rfl ?_))
          · have u2 := b2 (b + 1) 0 ⟨by omega, by omega⟩ (by omega) (by omega)
            refine j_aload_n 0 dL_isBarSound_129 rfl rfl ?_
            refine j_iload_n 1 dL_isBarSound_130 rfl rfl ?_
            refine j_iload_n 2 dL_isBarSound_131 rfl rfl ?_
            refine J_iconst dL_isBarSound_132 ?_
            refine J_iadd dL_isBarSound_133 ?_
            refine J_iconst dL_isBarSound_134 ?_
            refine J_rd (ck' := 12 * r + 3 + 6) (sk' := 72 * r + 18 + 36) kL_87 cvX9_eventOf hD (rE h (b + 1) 0 hD ⟨by omega, by omega⟩ (by omega) (by omega)) rfl rfl rfl rfl rfl dL_isBarSound_135 (by show 1 + _ ≤ _; omega) (by show 6 + _ ≤ _; omega) (fun h hD => ?_)
            refine j_iload dL_isBarSound_138 rfl ?_
            refine J_icmp_ne 147 dL_isBarSound_140 (by decide) (fun c140 => ?_) (fun c140 => ?_) (by omega)
            · refine J_iconst dL_isBarSound_147 ?_
              refine j_room (ck' := 12 * r + 9) (sk' := 72 * r + 54) (by omega) (by omega) ?_
              exact j_locR (K148 h 0 (Or.inr ⟨rfl, fun z => c140 ((hgB (by omega)).mp z).2.2⟩) hD) (by repeat' (first | exact True.intro | refine And.intro rfl ?_))
            · refine J_iconst dL_isBarSound_143 ?_
              refine j_goto 148 dL_isBarSound_144 (by decide) ?_
              refine j_room (ck' := 12 * r + 9) (sk' := 72 * r + 54) (by omega) (by omega) ?_
              exact j_locR (K148 h 1 (Or.inl ⟨rfl, (hgB (by omega)).mpr ⟨by omega, by omega, c140⟩⟩) hD) (by repeat' (first | exact True.intro | refine And.intro rfl ?_))
      · have u2 := b2 b (i + 1) hb (by omega) (by omega)
        refine j_aload_n 0 dL_isBarSound_89 rfl rfl ?_
        refine j_iload_n 1 dL_isBarSound_90 rfl rfl ?_
        refine j_iload_n 2 dL_isBarSound_91 rfl rfl ?_
        refine j_iload dL_isBarSound_92 rfl ?_
        refine J_iconst dL_isBarSound_94 ?_
        refine J_iadd dL_isBarSound_95 ?_
        refine J_rd (ck' := 12 * r + 3 + 7) (sk' := 72 * r + 18 + 42) kL_87 cvX9_eventOf hD (rE h b (i + 1) hD hb (by omega) (by omega)) rfl rfl rfl rfl rfl dL_isBarSound_96 (by show 1 + _ ≤ _; omega) (by show 6 + _ ≤ _; omega) (fun h hD => ?_)
        refine j_iload dL_isBarSound_99 rfl ?_
        refine J_icmp_ne 108 dL_isBarSound_101 (by decide) (fun c101 => ?_) (fun c101 => ?_) (by omega)
        · refine J_iconst dL_isBarSound_108 ?_
          refine j_goto 148 dL_isBarSound_109 (by decide) ?_
          refine j_room (ck' := 12 * r + 9) (sk' := 72 * r + 54) (by omega) (by omega) ?_
          exact j_locR (K148 h 0 (Or.inr ⟨rfl, fun z => c101 ((hgA (by omega)).mp z)⟩) hD) (by repeat' (first | exact True.intro | refine And.intro rfl ?_))
        · refine J_iconst dL_isBarSound_104 ?_
          refine j_goto 148 dL_isBarSound_105 (by decide) ?_
          refine j_room (ck' := 12 * r + 9) (sk' := 72 * r + 54) (by omega) (by omega) ?_
          exact j_locR (K148 h 1 (Or.inl ⟨rfl, (hgA (by omega)).mpr c101⟩) hD) (by repeat' (first | exact True.intro | refine And.intro rfl ?_))
    · subst n1
      refine j_iload dL_isBarSound_21 rfl ?_
      refine j_iload_n 3 dL_isBarSound_23 rfl rfl ?_
      refine J_icmp_ge 343 dL_isBarSound_24 (by decide) (fun c24 => absurd c24 (by omega)) (fun c24 => ?_) (by omega)
      refine j_aload_n 0 dL_isBarSound_27 rfl rfl ?_
      refine j_iload_n 1 dL_isBarSound_28 rfl rfl ?_
      refine j_iload_n 2 dL_isBarSound_29 rfl rfl ?_
      refine j_iload dL_isBarSound_30 rfl ?_
      refine J_rd (ck' := 12 * r + 3 + 11) (sk' := 72 * r + 18 + 66) kL_87 cvX9_eventOf hD (rE h b i hD hb h0 him) rfl rfl rfl rfl rfl dL_isBarSound_32 (by show 1 + _ ≤ _; omega) (by show 6 + _ ≤ _; omega) (fun h hD => ?_)
      refine j_istore (L' := [(7, _), (6, _), (5, _), (4, _), (3, _), (0, _), (1, _), (2, _)]) dL_isBarSound_35 rfl rfl ?_
      refine j_aload_n 0 dL_isBarSound_37 rfl rfl ?_
      refine j_iload_n 1 dL_isBarSound_38 rfl rfl ?_
      refine j_iload_n 2 dL_isBarSound_39 rfl rfl ?_
      refine j_iload dL_isBarSound_40 rfl ?_
      refine J_rd (ck' := 12 * r + 3 + 10) (sk' := 72 * r + 18 + 60) kL_90 cvX9_lengthOf hD (rL h i hD h0 him) rfl rfl rfl rfl rfl dL_isBarSound_42 (by show 1 + _ ≤ _; omega) (by show 6 + _ ≤ _; omega) (fun h hD => ?_)
      refine j_istore (L' := [(8, _), (7, _), (6, _), (5, _), (4, _), (3, _), (0, _), (1, _), (2, _)]) dL_isBarSound_45 rfl rfl ?_
      refine j_aload_n 0 dL_isBarSound_47 rfl rfl ?_
      refine j_iload_n 1 dL_isBarSound_48 rfl rfl ?_
      refine j_iload dL_isBarSound_49 rfl ?_
      refine J_rd (ck' := 12 * r + 3 + 9) (sk' := 72 * r + 18 + 54) kL_93 cvX9_heightOf hD (rH h (E b i) hD qe.1 qe.2) rfl rfl rfl rfl rfl dL_isBarSound_51 (by show 1 + _ ≤ _; omega) (by show 6 + _ ≤ _; omega) (fun h hD => ?_)
      refine J_if_lt 61 dL_isBarSound_54 (by decide) (fun c54 => ?_) (fun c54 => absurd c54 (by omega)) (by omega)
      refine J_iconst dL_isBarSound_61 ?_
      refine j_istore (L' := [(9, _), (8, _), (7, _), (6, _), (5, _), (4, _), (3, _), (0, _), (1, _), (2, _)]) dL_isBarSound_62 rfl rfl ?_
      refine j_aload_n 0 dL_isBarSound_64 rfl rfl ?_
      refine j_iload_n 1 dL_isBarSound_65 rfl rfl ?_
      refine j_iload_n 2 dL_isBarSound_66 rfl rfl ?_
      refine j_iload dL_isBarSound_67 rfl ?_
      refine J_rd (ck' := 12 * r + 3 + 8) (sk' := 72 * r + 18 + 48) kL_96 cvX9_beamOf hD (rB h i hD h0 him) rfl rfl rfl rfl rfl dL_isBarSound_69 (by show 1 + _ ≤ _; omega) (by show 6 + _ ≤ _; omega) (fun h hD => ?_)
      refine j_istore (L' := [(10, _), (9, _), (8, _), (7, _), (6, _), (5, _), (4, _), (3, _), (0, _), (1, _), (2, _)]) dL_isBarSound_72 rfl rfl ?_
      refine j_iload dL_isBarSound_74 rfl ?_
      refine j_iload dL_isBarSound_76 rfl ?_
      refine J_iadd dL_isBarSound_78 ?_
      refine j_istore (L' := [(4, _), (10, _), (9, _), (8, _), (7, _), (6, _), (5, _), (3, _), (0, _), (1, _), (2, _)]) dL_isBarSound_79 rfl rfl ?_
      refine j_iload dL_isBarSound_81 rfl ?_
      refine J_iconst dL_isBarSound_83 ?_
      refine J_iadd dL_isBarSound_84 ?_
      refine j_iload_n 3 dL_isBarSound_85 rfl rfl ?_
      refine J_icmp_ge 112 dL_isBarSound_86 (by decide) (fun c86 => ?_) (fun c86 => ?_) (by omega)
      · refine j_iload_n 2 dL_isBarSound_112 rfl rfl ?_
        refine J_bipush dL_isBarSound_113 (by decide) ?_
        refine J_icmp_ge 147 dL_isBarSound_115 (by decide) (fun c115 => ?_) (fun c115 => ?_) (by omega)
        · refine J_iconst dL_isBarSound_147 ?_
          refine j_room (ck' := 12 * r + 9) (sk' := 72 * r + 54) (by omega) (by omega) ?_
          exact j_locR (K148 h 0 (Or.inr ⟨rfl, fun z => absurd ((hgB (by omega)).mp z).1 (by omega)⟩) hD) (by repeat' (first | exact True.intro | refine And.intro rfl ?_))
        · have u1 := b1 (b + 1) ⟨by omega, by omega⟩
          refine j_aload_n 0 dL_isBarSound_118 rfl rfl ?_
          refine j_iload_n 1 dL_isBarSound_119 rfl rfl ?_
          refine j_iload_n 2 dL_isBarSound_120 rfl rfl ?_
          refine J_iconst dL_isBarSound_121 ?_
          refine J_iadd dL_isBarSound_122 ?_
          refine J_rd (ck' := 12 * r + 3 + 7) (sk' := 72 * r + 18 + 42) kL_81 cvX9_signs hD (rS h (b + 1) hD ⟨by omega, by omega⟩) rfl rfl rfl rfl rfl dL_isBarSound_123 (by show 1 + _ ≤ _; omega) (by show 6 + _ ≤ _; omega) (fun h hD => ?_)
          refine J_if_le 147 dL_isBarSound_126 (by decide) (fun c126 => ?_) (fun c126 => ?_) (by omega)
          · refine J_iconst dL_isBarSound_147 ?_
            refine j_room (ck' := 12 * r + 9) (sk' := 72 * r + 54) (by omega) (by omega) ?_
            exact j_locR (K148 h 0 (Or.inr ⟨rfl, fun z => absurd ((hgB (by omega)).mp z).2.1 (by omega)⟩) hD) (by repeat' (first | exact True.intro | refine And.intro rfl ?_))
          · have u2 := b2 (b + 1) 0 ⟨by omega, by omega⟩ (by omega) (by omega)
            refine j_aload_n 0 dL_isBarSound_129 rfl rfl ?_
            refine j_iload_n 1 dL_isBarSound_130 rfl rfl ?_
            refine j_iload_n 2 dL_isBarSound_131 rfl rfl ?_
            refine J_iconst dL_isBarSound_132 ?_
            refine J_iadd dL_isBarSound_133 ?_
            refine J_iconst dL_isBarSound_134 ?_
            refine J_rd (ck' := 12 * r + 3 + 6) (sk' := 72 * r + 18 + 36) kL_87 cvX9_eventOf hD (rE h (b + 1) 0 hD ⟨by omega, by omega⟩ (by omega) (by omega)) rfl rfl rfl rfl rfl dL_isBarSound_135 (by show 1 + _ ≤ _; omega) (by show 6 + _ ≤ _; omega) (fun h hD => ?_)
            refine j_iload dL_isBarSound_138 rfl ?_
            refine J_icmp_ne 147 dL_isBarSound_140 (by decide) (fun c140 => ?_) (fun c140 => ?_) (by omega)
            · refine J_iconst dL_isBarSound_147 ?_
              refine j_room (ck' := 12 * r + 9) (sk' := 72 * r + 54) (by omega) (by omega) ?_
              exact j_locR (K148 h 0 (Or.inr ⟨rfl, fun z => c140 ((hgB (by omega)).mp z).2.2⟩) hD) (by repeat' (first | exact True.intro | refine And.intro rfl ?_))
            · refine J_iconst dL_isBarSound_143 ?_
              refine j_goto 148 dL_isBarSound_144 (by decide) ?_
              refine j_room (ck' := 12 * r + 9) (sk' := 72 * r + 54) (by omega) (by omega) ?_
              exact j_locR (K148 h 1 (Or.inl ⟨rfl, (hgB (by omega)).mpr ⟨by omega, by omega, c140⟩⟩) hD) (by repeat' (first | exact True.intro | refine And.intro rfl ?_))
      · have u2 := b2 b (i + 1) hb (by omega) (by omega)
        refine j_aload_n 0 dL_isBarSound_89 rfl rfl ?_
        refine j_iload_n 1 dL_isBarSound_90 rfl rfl ?_
        refine j_iload_n 2 dL_isBarSound_91 rfl rfl ?_
        refine j_iload dL_isBarSound_92 rfl ?_
        refine J_iconst dL_isBarSound_94 ?_
        refine J_iadd dL_isBarSound_95 ?_
        refine J_rd (ck' := 12 * r + 3 + 7) (sk' := 72 * r + 18 + 42) kL_87 cvX9_eventOf hD (rE h b (i + 1) hD hb (by omega) (by omega)) rfl rfl rfl rfl rfl dL_isBarSound_96 (by show 1 + _ ≤ _; omega) (by show 6 + _ ≤ _; omega) (fun h hD => ?_)
        refine j_iload dL_isBarSound_99 rfl ?_
        refine J_icmp_ne 108 dL_isBarSound_101 (by decide) (fun c101 => ?_) (fun c101 => ?_) (by omega)
        · refine J_iconst dL_isBarSound_108 ?_
          refine j_goto 148 dL_isBarSound_109 (by decide) ?_
          refine j_room (ck' := 12 * r + 9) (sk' := 72 * r + 54) (by omega) (by omega) ?_
          exact j_locR (K148 h 0 (Or.inr ⟨rfl, fun z => c101 ((hgA (by omega)).mp z)⟩) hD) (by repeat' (first | exact True.intro | refine And.intro rfl ?_))
        · refine J_iconst dL_isBarSound_104 ?_
          refine j_goto 148 dL_isBarSound_105 (by decide) ?_
          refine j_room (ck' := 12 * r + 9) (sk' := 72 * r + 54) (by omega) (by omega) ?_
          exact j_locR (K148 h 1 (Or.inl ⟨rfl, (hgA (by omega)).mpr c101⟩) hD) (by repeat' (first | exact True.intro | refine And.intro rfl ?_))
set_option maxRecDepth 100000 in
theorem c_L_isBarSound {l : Launch} {G : jG} {a : Nat} {d : DA} {P : Nat → OS} {p0 : OS} {Z : Nat → Nat} {k b : Int} (hl0 : l.stackTraces = false) (hZ : Dz a d Z) (hk : 0 ≤ k ∧ k < 4) (hb : isBar b) (hB : BarOK (fun c => (wrP (P k.toNat) p0 c zOS).1 9) (fun c => (wrP (P k.toNat) p0 c zOS).2 0) b ((P k.toNat).1 7) ((wrP (P k.toNat) p0 b zOS).2 2) ((wrP (P k.toNat) p0 b zOS).2 7) ((wrP (P k.toNat) p0 b zOS).2 5) ((wrP (P k.toNat) p0 b zOS).2 6) ((wrP (P k.toNat) p0 b zOS).2 4) ((P k.toNat).2 2) ((P k.toNat).2 5) ((P k.toNat).2 6) ((wrP (P k.toNat) p0 b zOS).1 10) (max 0 (min (p0.2 2 b) (sumN (p0.2 2) b.toNat + p0.2 2 b - (P k.toNat).1 8))) (p0.2 2 b) (sumN (p0.2 2) b.toNat)) {h : jH} (hD : DD G a d P p0 h) : jC l G yL_isBarSound zL_isBarSound [.ref a, vI k, vI b] h (jW (oI 1) (DD G a d P p0)) := by
  have b1 := hB.1
  have b3 := hB.2.2.1
  have b2 : ∀ c i : Int, isBar c → 0 ≤ i → i < (wrP (P k.toNat) p0 c zOS).1 9 → 0 ≤ (wrP (P k.toNat) p0 c zOS).2 0 i ∧ (wrP (P k.toNat) p0 c zOS).2 0 i < (P k.toNat).1 7 := hB.2.1
  have b0 : ∀ c : Int, isBar c → 0 ≤ (wrP (P k.toNat) p0 c zOS).1 9 ∧ (wrP (P k.toNat) p0 c zOS).1 9 ≤ 128 := hB.1
  have bb := b0 b hb
  refine j_body (by decide +kernel) ⟨rfl, rfl⟩ rfl ?_
  refine j_room (ck' := 12 * ((wrP (P k.toNat) p0 b zOS).1 9).toNat + 5) (sk' := 72 * ((wrP (P k.toNat) p0 b zOS).1 9).toNat + 30) (show _ ≤ 1560 by omega) (show _ ≤ 9360 by omega) ?_
  refine j_aload_n 0 dL_isBarSound_0 rfl rfl ?_
  refine j_iload_n 1 dL_isBarSound_1 rfl rfl ?_
  refine j_iload_n 2 dL_isBarSound_2 rfl rfl ?_
  refine J_rd (ck' := 12 * ((wrP (P k.toNat) p0 b zOS).1 9).toNat + 3 + 1) (sk' := 72 * ((wrP (P k.toNat) p0 b zOS).1 9).toNat + 18 + 6) kL_81 cvX9_signs hD (r_signs hl0 hZ hD hk hb) rfl rfl rfl rfl rfl dL_isBarSound_3 (by show 1 + _ ≤ _; omega) (by show 6 + _ ≤ _; omega) (fun h hD => ?_)
  refine j_istore_n 3 (L' := [(3, _), (0, _), (1, _), (2, _)]) dL_isBarSound_6 rfl rfl rfl ?_
  refine j_aload_n 0 dL_isBarSound_7 rfl rfl ?_
  refine j_iload_n 1 dL_isBarSound_8 rfl rfl ?_
  refine j_iload_n 2 dL_isBarSound_9 rfl rfl ?_
  refine J_rd (ck' := 12 * ((wrP (P k.toNat) p0 b zOS).1 9).toNat + 3 + 0) (sk' := 72 * ((wrP (P k.toNat) p0 b zOS).1 9).toNat + 18 + 0) kL_84 cvX9_missing hD (r_missing hl0 hZ hD hk hb) rfl rfl rfl rfl rfl dL_isBarSound_10 (by show 1 + _ ≤ _; omega) (by show 6 + _ ≤ _; omega) (fun h hD => ?_)
  refine j_istore (L' := [(4, _), (3, _), (0, _), (1, _), (2, _)]) dL_isBarSound_13 rfl rfl ?_
  refine J_iconst dL_isBarSound_15 ?_
  refine j_istore (L' := [(5, _), (4, _), (3, _), (0, _), (1, _), (2, _)]) dL_isBarSound_16 rfl rfl ?_
  refine J_iconst dL_isBarSound_18 ?_
  refine j_istore (L' := [(6, _), (5, _), (4, _), (3, _), (0, _), (1, _), (2, _)]) dL_isBarSound_19 rfl rfl ?_
  have g := bar_loop hb hk (fun h c hD hc => r_signs hl0 hZ hD hk hc) (fun h c i hD hc h0 h1 => r_eventOf hl0 hZ hD hk hc ⟨h0, h1⟩ (by have := b0 c hc; have h1 : i < (wrP (P k.toNat) p0 c zOS).1 9 := h1; omega)) (fun h i hD h0 h1 => r_lengthOf hl0 hZ hD hk hb ⟨h0, h1⟩ (by have h1 : i < (wrP (P k.toNat) p0 b zOS).1 9 := h1; omega)) (fun h i hD h0 h1 => r_beamOf hl0 hZ hD hk hb ⟨h0, h1⟩ (by have h1 : i < (wrP (P k.toNat) p0 b zOS).1 9 := h1; omega)) (fun h i hD h0 h1 => r_isTied hl0 hZ hD hk hb ⟨h0, h1⟩ (by have h1 : i < (wrP (P k.toNat) p0 b zOS).1 9 := h1; omega)) (fun h i hD h0 h1 => r_shown hl0 hZ hD hk hb ⟨h0, h1⟩ (by have h1 : i < (wrP (P k.toNat) p0 b zOS).1 9 := h1; omega)) (fun h i hD h0 h1 => r_shownWritten hl0 hZ hD hk hb ⟨h0, h1⟩ (by have h1 : i < (wrP (P k.toNat) p0 b zOS).1 9 := h1; omega)) (fun h e hD h0 h1 => r_heightOf hl0 hZ hD hk ⟨h0, h1⟩ (by omega)) (fun h e hD h0 h1 => r_writtenPlace hl0 hZ hD hk ⟨h0, h1⟩ (by omega)) (fun h e hD h0 h1 => r_writtenAlter hl0 hZ hD hk ⟨h0, h1⟩ (by omega)) (fun h hD => r_missing hl0 hZ hD hk hb) (fun h hD => r_beams hl0 hZ hD hk hb) (fun h hD => r_lengthOfBar hl0 hZ hD hb) (fun h hD => r_beginOfBar hl0 hZ hD hb) hB ((wrP (P k.toNat) p0 b zOS).1 9).toNat 0 (-1) (max 0 (min (p0.2 2 b) (sumN (p0.2 2) b.toNat + p0.2 2 b - (P k.toNat).1 8))) h (by show 0 + _ = (wrP (P k.toNat) p0 b zOS).1 9; omega) (by omega) rfl (by show _ = _ + 0; omega) hD
  exact j_locR g (by repeat' (first | exact True.intro | refine And.intro rfl ?_))
