/-! the checksum as a list -/
def mixL (d : Int) (L : List Int) : Int := L.foldl (fun d x => d * 31 + x) d
theorem mixL_app (d : Int) (A B : List Int) : mixL d (A ++ B) = mixL (mixL d A) B := List.foldl_append ..
def rpt (f : Nat → List Int) : Nat → List Int
  | 0 => []
  | n + 1 => rpt f n ++ f n
theorem rpt_s (f : Nat → List Int) (n : Nat) : rpt f (n + 1) = rpt f n ++ f n := rfl
theorem I64_31 : (31 : Int64) = Int64.ofInt 31 := by decide
theorem I64_d : (2467 : Int64) = Int64.ofInt 2467 := by decide
def evL (p6 p0 : OS) (e : Nat) : List Int := [p6.2 3 e, p6.2 2 e, barF (p0.2 2) (p6.2 3 e) 24, p6.2 5 e, p6.2 6 e]
def ptL (p6 p0 : OS) : List Int := [p6.1 7] ++ rpt (evL p6 p0) (p6.1 7).toNat
def sgL1 (w : OS) (i : Nat) : List Int := [w.2 0 i, w.2 2 i, bI (w.2 4 i ≠ 0), w.2 5 i, w.2 6 i, w.2 7 i]
def sgL (w : OS) : List Int := rpt (sgL1 w) (w.1 9).toNat
theorem shN_S {first pl al : Int → Int} {key : Int} {F0 S0 : Int → Int} : ∀ k : Nat, (∀ j : Int, 0 ≤ j → j < k → -3 ≤ al j ∧ al j ≤ 2) → ∀ j : Int, 0 ≤ j → j < k → -3 ≤ (shN first pl al key F0 S0 k).2 j ∧ (shN first pl al key F0 S0 k).2 j ≤ 2
  | 0, _ => fun j a b => absurd b (by simp; omega)
  | k + 1, h => by
    have ih := shN_S (first := first) (pl := pl) (key := key) (F0 := F0) (S0 := S0) k (fun j a b => h j a (by omega))
    have hk := h k (by omega) (by omega)
    intro j a b
    unfold shN
    split
    · show -3 ≤ upI _ k (atsV _ (pl k) (al k) key) j ∧ upI _ k (atsV _ (pl k) (al k) key) j ≤ 2
      by_cases c : j = k
      · subst c
        rw [upI_s]
        unfold atsV
        (repeat' split) <;> omega
      · rw [upI_n c]; exact ih j a (by omega)
    · show -3 ≤ upI _ k (-3) j ∧ upI _ k (-3) j ≤ 2
      by_cases c : j = k
      · subst c
        rw [upI_s]
        omega
      · rw [upI_n c]; exact ih j a (by omega)
/-- the numbers of the signs are small -/
theorem wrP_rg {p6 p0 : OS} (h6 : partOK p6) (hc : calOK p0) {b : Int} (hb : isBar b) (p : OS) : ((0 ≤ (wrP p6 p0 b p).1 9 ∧ (wrP p6 p0 b p).1 9 ≤ 128) ∧ 0 ≤ (wrP p6 p0 b p).1 10 ∧ (wrP p6 p0 b p).1 10 ≤ 128) ∧ ∀ j : Int, 0 ≤ j → j < (wrP p6 p0 b p).1 9 → rg ((wrP p6 p0 b p).2 0 j) ∧ rg ((wrP p6 p0 b p).2 2 j) ∧ rg ((wrP p6 p0 b p).2 5 j) ∧ rg ((wrP p6 p0 b p).2 6 j) ∧ rg ((wrP p6 p0 b p).2 7 j) := by
  have hL := lenZ_sum hc.1.1 b.toNat (by unfold isBar at hb; omega)
  have hfe := febF_rg (endF p6) (sumN (p0.2 2) b.toNat) (p6.1 7).toNat
  have hn6 : 0 ≤ p6.1 7 ∧ p6.1 7 ≤ 512 := h6.1
  have hq1 : sgQ p6 (sumN (p0.2 2) b.toNat) (sumN (p0.2 2) b.toNat + p0.2 2 b) (wr1 p6 p0 b p) := by
    exact sgQ_ev _ _ _ (by omega) (by omega) ⟨⟨Int.le_refl _, by show (0 : Int) ≤ 128; omega⟩, fun j h0 h1 => absurd (show j < 0 from h1) (by omega)⟩
  have hm1 : 0 ≤ (wr1 p6 p0 b p).1 9 ∧ (wr1 p6 p0 b p).1 9 ≤ 128 := hq1.1
  have e92 : (wr2 p6 p0 (wr1 p6 p0 b p)).1 9 = (wr1 p6 p0 b p).1 9 := rfl
  have hbf := bmP_f (grpG p6 (wr2 p6 p0 (wr1 p6 p0 b p)) (sumN (p0.2 2) b.toNat) (glF p0 b)) (wr2 p6 p0 (wr1 p6 p0 b p)) ((wr2 p6 p0 (wr1 p6 p0 b p)).1 9).toNat
  have hbz := bmZ_P (grpG p6 (wr2 p6 p0 (wr1 p6 p0 b p)) (sumN (p0.2 2) b.toNat) (glF p0 b)) (wr2 p6 p0 (wr1 p6 p0 b p)) ((wr2 p6 p0 (wr1 p6 p0 b p)).1 9).toNat (by omega)
  have e3 : wr3 p6 p0 b (wr2 p6 p0 (wr1 p6 p0 b p)) = bmP (grpG p6 (wr2 p6 p0 (wr1 p6 p0 b p)) (sumN (p0.2 2) b.toNat) (glF p0 b)) (wr2 p6 p0 (wr1 p6 p0 b p)) ((wr2 p6 p0 (wr1 p6 p0 b p)).1 9).toNat := rfl
  rw [← e3] at hbf hbz
  have w02 : ∀ i : Nat, i < 3 → (wr2 p6 p0 (wr1 p6 p0 b p)).2 i = (wr1 p6 p0 b p).2 i := fun i hi => by
    show (oA (oA _ 4 _) 3 _).2 i = _
    rw [oA_n (by omega), oA_n (by omega)]
  have e9 : (wrP p6 p0 b p).1 9 = (wr1 p6 p0 b p).1 9 := hbf.1
  have e10 : (wrP p6 p0 b p).1 10 = (wr3 p6 p0 b (wr2 p6 p0 (wr1 p6 p0 b p))).1 10 := rfl
  unfold wrP at e9 e10 ⊢
  generalize hu : wr3 p6 p0 b (wr2 p6 p0 (wr1 p6 p0 b p)) = u at *
  have hu9 : u.1 9 = (wr1 p6 p0 b p).1 9 := hbf.1
  have hev : ∀ j : Int, 0 ≤ j → j < u.1 9 → inP p6 (u.2 0 j) := fun j ja jb => by
    rw [hbf.2 0 (by decide), w02 0 (by decide)]
    exact (hq1.2 j ja (by omega)).1
  refine ⟨⟨by rw [e9]; exact hm1, by rw [e10]; have := hbz.1; omega⟩, fun j ja jb => ?_⟩
  rw [e9] at jb
  have q := hq1.2 j ja jb
  refine ⟨?_, ?_, ?_, ?_, ?_⟩
  · show rg (u.2 0 j)
    have := hev j ja (by omega)
    omega
  · show rg (u.2 2 j)
    rw [hbf.2 2 (by decide), w02 2 (by decide)]
    omega
  · show rg ((shN (u.2 3) (fun j => p6.2 0 (u.2 0 j)) (fun j => p6.2 1 (u.2 0 j)) _ (F0X (u.2 8)) (u.2 5) (u.1 9).toNat).2 j)
    have := shN_S (first := u.2 3) (pl := fun j => p6.2 0 (u.2 0 j)) (al := fun j => p6.2 1 (u.2 0 j)) (key := p0.2 3 b) (F0 := F0X (u.2 8)) (S0 := u.2 5) (u.1 9).toNat (fun i ia ib => by have h := hev i ia (by omega); have := (h6.2.1 _ h.1 h.2).2.1; omega) j ja (by omega)
    omega
  · show rg ((shN (u.2 3) (fun j => p6.2 5 (u.2 0 j)) (fun j => p6.2 6 (u.2 0 j)) _ _ (u.2 6) (u.1 9).toNat).2 j)
    have := shN_S (first := u.2 3) (pl := fun j => p6.2 5 (u.2 0 j)) (al := fun j => p6.2 6 (u.2 0 j)) (key := kwF p6 (p0.2 3 b)) (F0 := F0X ((showP 5 0 1 p6 (p0.2 3 b) u).2 8)) (S0 := u.2 6) (u.1 9).toNat (fun i ia ib => by have h := hev i ia (by omega); have := (h6.2.1 _ h.1 h.2).2.2.2.2.2.2; omega) j ja (by omega)
    omega
  · show rg (u.2 7 j)
    have := hbz.2 j ja (by omega)
    omega
set_option maxRecDepth 100000 in
theorem c_X9_mix {l : Launch} {G : jG} {h : jH} {d v : Int}   : jC l G yX9_mix mX9_mix [vL d, vL v] h (jE (.inl (some (vL (d * 31 + v)))) h) := by
  refine j_body (by decide +kernel) ⟨rfl, rfl⟩ rfl ?_
  refine j_lload_n 0 dX9_mix_0 rfl rfl ?_
  refine j_ldc2 _ dX9_mix_1 vX9_332 ?_
  rw [I64_31]
  refine J_lmul dX9_mix_4 ?_
  refine j_lload_n 2 dX9_mix_5 rfl rfl ?_
  refine J_ladd dX9_mix_6 ?_
  refine j_lret rfl dX9_mix_7 ?_
  exact ⟨rfl, rfl⟩
set_option maxRecDepth 100000 in
theorem c_X9_mixPart {l : Launch} {G : jG} {h : jH} {a : Nat} {d : DA} {s : DS} {Z : Nat → Nat} {x : Int} {b6 : Nat} {q6 : Nat → Nat} {p6 : OS} (hD : Desk G h a d s) (hI : DI s) (hZ : Dz a d Z) (hP : AtX6 G h b6 q6 p6) (hp : partOK p6) : jC l G yX9_mixPart mX9_mixPart [.ref a, vL x, .ref b6] h (jE (.inl (some (vL (mixL x (ptL p6 (s.2.1 0)))))) h) := by
  have hn7 : 0 ≤ p6.1 7 ∧ p6.1 7 ≤ 512 := hp.1
  have loop : ∀ (n e : Nat), (e : Int) + n = p6.1 7 → J l G mX9_mixPart (jQ G mX9_mixPart (jE (.inl (some (vL (mixL x (ptL p6 (s.2.1 0)))))) h)) 0 0 13 [(4, vI (e : Int)), (1, vL (mixL x ([p6.1 7] ++ rpt (evL p6 (s.2.1 0)) e))), (0, .ref a), (3, .ref b6)] [] h := by
    intro n
    induction n with
    | zero =>
      intro e he
      obtain rfl : e = (p6.1 7).toNat := by omega
      refine j_iload dX9_mixPart_13 rfl ?_
      refine j_aload_n 3 dX9_mixPart_15 rfl rfl ?_
      refine J_callV1 kX9_98 cvX6_size hP.1 (c_X6_size hP) rfl rfl rfl rfl rfl dX9_mixPart_16 rfl rfl ?_
      refine J_icmp_ge 95 dX9_mixPart_19 (by decide) (fun c19 => ?_) (fun c19 => absurd c19 (by omega)) 
      refine j_lload_n 1 dX9_mixPart_95 rfl rfl ?_
      refine j_lret rfl dX9_mixPart_96 ?_
      exact ⟨rfl, rfl⟩
    | succ n ih =>
      intro e he
      have hin : inP p6 (e : Int) := ⟨by omega, by omega⟩
      have hz := hp.2.1 e hin.1 hin.2
      have z2 := hz.2.2.1
      have z3 := hz.2.2.2.1
      have z5 := hz.2.2.2.2.2.1
      have z6 := hz.2.2.2.2.2.2
      have zb := barF_rg ((s.2.1 0).2 2) (p6.2 3 e) 24 (Nat.le_refl _)
      have g := ih (e + 1) (by omega)
      rw [rpt_s, ← List.append_assoc, mixL_app] at g
      refine j_iload dX9_mixPart_13 rfl ?_
      refine j_aload_n 3 dX9_mixPart_15 rfl rfl ?_
      refine J_callV1 kX9_98 cvX6_size hP.1 (c_X6_size hP) rfl rfl rfl rfl rfl dX9_mixPart_16 rfl rfl ?_
      refine J_icmp_ge 95 dX9_mixPart_19 (by decide) (fun c19 => absurd c19 (by omega)) (fun c19 => ?_) 
      refine j_lload_n 1 dX9_mixPart_22 rfl rfl ?_
      refine j_aload_n 3 dX9_mixPart_23 rfl rfl ?_
      refine j_iload dX9_mixPart_24 rfl ?_
      refine J_callV1 kX9_166 cvX6_beginAt hP.1 (c_X6_beginAt hP hp.1 (by omega)) rfl rfl rfl rfl rfl dX9_mixPart_26 rfl rfl ?_
      refine J_top (p6.2 3 e) ?_ (by exact if_pos hin)
      refine J_i2l dX9_mixPart_29 ?_ 
      refine J_callS1 kX9_325 csX9_mix c_X9_mix rfl rfl rfl rfl rfl dX9_mixPart_30 rfl rfl ?_
      refine j_lstore_n 1 (L' := [(1, _), (4, _), (0, _), (3, _)]) dX9_mixPart_33 rfl rfl rfl ?_
      refine j_lload_n 1 dX9_mixPart_34 rfl rfl ?_
      refine j_aload_n 3 dX9_mixPart_35 rfl rfl ?_
      refine j_iload dX9_mixPart_36 rfl ?_
      refine J_callV1 kX9_119 cvX6_heightAt hP.1 (c_X6_heightAt hP hp.1 (by omega)) rfl rfl rfl rfl rfl dX9_mixPart_38 rfl rfl ?_
      refine J_top (p6.2 2 e) ?_ (by exact if_pos hin)
      refine J_i2l dX9_mixPart_41 ?_ 
      refine J_callS1 kX9_325 csX9_mix c_X9_mix rfl rfl rfl rfl rfl dX9_mixPart_42 rfl rfl ?_
      refine j_lstore_n 1 (L' := [(1, _), (4, _), (0, _), (3, _)]) dX9_mixPart_45 rfl rfl rfl ?_
      refine j_lload_n 1 dX9_mixPart_46 rfl rfl ?_
      refine j_aload_n 0 dX9_mixPart_47 rfl rfl ?_
      refine j_get fX9_19 dX9_mixPart_48 hD.1 rfl ?_
      refine j_aload_n 3 dX9_mixPart_51 rfl rfl ?_
      refine j_iload dX9_mixPart_52 rfl ?_
      refine J_callV1 kX9_166 cvX6_beginAt hP.1 (c_X6_beginAt hP hp.1 (by omega)) rfl rfl rfl rfl rfl dX9_mixPart_54 rfl rfl ?_
      refine J_top (p6.2 3 e) ?_ (by exact if_pos hin)
      refine J_callV1 kX9_169 cvX0_barAt (hD.2.2.1).1 (c_X0_barAt (hD.2.2.1) hI.2.2.1.1.1 (by omega)) rfl rfl rfl rfl rfl dX9_mixPart_57 rfl rfl ?_
      refine J_i2l dX9_mixPart_60 ?_ 
      refine J_callS1 kX9_325 csX9_mix c_X9_mix rfl rfl rfl rfl rfl dX9_mixPart_61 rfl rfl ?_
      refine j_lstore_n 1 (L' := [(1, _), (4, _), (0, _), (3, _)]) dX9_mixPart_64 rfl rfl rfl ?_
      refine j_lload_n 1 dX9_mixPart_65 rfl rfl ?_
      refine j_aload_n 3 dX9_mixPart_66 rfl rfl ?_
      refine j_iload dX9_mixPart_67 rfl ?_
      refine J_callV1 kX9_172 cvX6_writtenPlaceAt hP.1 (c_X6_writtenPlaceAt hP hp.1 (by omega)) rfl rfl rfl rfl rfl dX9_mixPart_69 rfl rfl ?_
      refine J_top (p6.2 5 e) ?_ (by exact if_pos hin)
      refine J_i2l dX9_mixPart_72 ?_ 
      refine J_callS1 kX9_325 csX9_mix c_X9_mix rfl rfl rfl rfl rfl dX9_mixPart_73 rfl rfl ?_
      refine j_lstore_n 1 (L' := [(1, _), (4, _), (0, _), (3, _)]) dX9_mixPart_76 rfl rfl rfl ?_
      refine j_lload_n 1 dX9_mixPart_77 rfl rfl ?_
      refine j_aload_n 3 dX9_mixPart_78 rfl rfl ?_
      refine j_iload dX9_mixPart_79 rfl ?_
      refine J_callV1 kX9_175 cvX6_writtenAlterAt hP.1 (c_X6_writtenAlterAt hP hp.1 (by omega)) rfl rfl rfl rfl rfl dX9_mixPart_81 rfl rfl ?_
      refine J_top (p6.2 6 e) ?_ (by exact if_pos hin)
      refine J_i2l dX9_mixPart_84 ?_ 
      refine J_callS1 kX9_325 csX9_mix c_X9_mix rfl rfl rfl rfl rfl dX9_mixPart_85 rfl rfl ?_
      refine j_lstore_n 1 (L' := [(1, _), (4, _), (0, _), (3, _)]) dX9_mixPart_88 rfl rfl rfl ?_
      refine J_iinc (L' := [(4, _), (1, _), (0, _), (3, _)]) dX9_mixPart_89 rfl rfl rfl ?_
      refine j_goto 13 dX9_mixPart_92 (by decide) ?_
      exact j_locR g (by repeat' (first | exact True.intro | refine And.intro rfl ?_))
  refine j_body (by decide +kernel) ⟨rfl, rfl⟩ rfl ?_
  refine j_lload_n 1 dX9_mixPart_0 rfl rfl ?_
  refine j_aload_n 3 dX9_mixPart_1 rfl rfl ?_
  refine J_callV1 kX9_98 cvX6_size hP.1 (c_X6_size hP) rfl rfl rfl rfl rfl dX9_mixPart_2 rfl rfl ?_
  refine J_i2l dX9_mixPart_5 ?_ 
  refine J_callS1 kX9_325 csX9_mix c_X9_mix rfl rfl rfl rfl rfl dX9_mixPart_6 rfl rfl ?_
  refine j_lstore_n 1 (L' := [(1, _), (0, _), (3, _)]) dX9_mixPart_9 rfl rfl rfl ?_
  refine J_iconst dX9_mixPart_10 ?_
  refine j_istore (L' := [(4, _), (1, _), (0, _), (3, _)]) dX9_mixPart_11 rfl rfl ?_
  exact loop (p6.1 7).toNat 0 (by omega)
set_option maxRecDepth 100000 in
theorem c_X9_mixSigns {l : Launch} {G : jG} {h : jH} {a : Nat} {x : Int} {b5 : Nat} {q5 : Nat → Nat} {p5 p6 p0 : OS} {b : Int} (hP : AtX5 G h b5 q5 p5) (hm : MeaOK p6 p0 b p5) (hr : ((0 ≤ (wrP p6 p0 b zOS).1 9 ∧ (wrP p6 p0 b zOS).1 9 ≤ 128) ∧ 0 ≤ (wrP p6 p0 b zOS).1 10 ∧ (wrP p6 p0 b zOS).1 10 ≤ 128) ∧ ∀ j : Int, 0 ≤ j → j < (wrP p6 p0 b zOS).1 9 → rg ((wrP p6 p0 b zOS).2 0 j) ∧ rg ((wrP p6 p0 b zOS).2 2 j) ∧ rg ((wrP p6 p0 b zOS).2 5 j) ∧ rg ((wrP p6 p0 b zOS).2 6 j) ∧ rg ((wrP p6 p0 b zOS).2 7 j)) : jC l G yX9_mixSigns mX9_mixSigns [.ref a, vL x, .ref b5] h (jE (.inl (some (vL (mixL x (sgL (wrP p6 p0 b zOS)))))) h) := by
  obtain ⟨m1, m2, m3, -, m5, m6, m7, m8, m9, m10⟩ := hm
  obtain ⟨⟨hr1, -⟩, hr2⟩ := hr
  obtain ⟨w, hw⟩ : ∃ w, w = (wrP p6 p0 b zOS) := ⟨_, rfl⟩
  rw [← hw] at m3 m5 m6 m7 m8 m9 m10 hr1 hr2 ⊢
  have loop : ∀ (n i : Nat), (i : Int) + n = w.1 9 → J l G mX9_mixSigns (jQ G mX9_mixSigns (jE (.inl (some (vL (mixL x (sgL w))))) h)) 0 0 3 [(4, vI (i : Int)), (1, vL (mixL x (rpt (sgL1 w) i))), (0, .ref a), (3, .ref b5)] [] h := by
    intro n
    induction n with
    | zero =>
      intro i he
      obtain rfl : i = (w.1 9).toNat := by omega
      refine j_iload dX9_mixSigns_3 rfl ?_
      refine j_aload_n 3 dX9_mixSigns_5 rfl rfl ?_
      refine J_callV1 kX9_194 cvX5_size hP.1 (c_X5_size hP) rfl rfl rfl rfl rfl dX9_mixSigns_6 rfl rfl ?_
      refine J_icmp_ge 97 dX9_mixSigns_9 (by decide) (fun c9 => ?_) (fun c9 => absurd c9 (by omega)) 
      refine j_lload_n 1 dX9_mixSigns_97 rfl rfl ?_
      refine j_lret rfl dX9_mixSigns_98 ?_
      exact ⟨rfl, rfl⟩
    | succ n ih =>
      intro i he
      have hin : inM p5 (i : Int) := ⟨by omega, by omega⟩
      have hj := hr2 i (by omega) (by omega)
      have g := ih (i + 1) (by omega)
      rw [rpt_s, mixL_app] at g
      refine j_iload dX9_mixSigns_3 rfl ?_
      refine j_aload_n 3 dX9_mixSigns_5 rfl rfl ?_
      refine J_callV1 kX9_194 cvX5_size hP.1 (c_X5_size hP) rfl rfl rfl rfl rfl dX9_mixSigns_6 rfl rfl ?_
      refine J_icmp_ge 97 dX9_mixSigns_9 (by decide) (fun c9 => absurd c9 (by omega)) (fun c9 => ?_) 
      refine j_lload_n 1 dX9_mixSigns_12 rfl rfl ?_
      refine j_aload_n 3 dX9_mixSigns_13 rfl rfl ?_
      refine j_iload dX9_mixSigns_14 rfl ?_
      refine J_callV1 kX9_199 cvX5_eventAt hP.1 (c_X5_eventAt hP m1 (by omega)) rfl rfl rfl rfl rfl dX9_mixSigns_16 rfl rfl ?_
      refine J_top (w.2 0 i) ?_ (by rw [if_pos hin]; exact m5 i hin.1 hin.2)
      refine J_i2l dX9_mixSigns_19 ?_ 
      refine J_callS1 kX9_325 csX9_mix c_X9_mix rfl rfl rfl rfl rfl dX9_mixSigns_20 rfl rfl ?_
      refine j_lstore_n 1 (L' := [(1, _), (4, _), (0, _), (3, _)]) dX9_mixSigns_23 rfl rfl rfl ?_
      refine j_lload_n 1 dX9_mixSigns_24 rfl rfl ?_
      refine j_aload_n 3 dX9_mixSigns_25 rfl rfl ?_
      refine j_iload dX9_mixSigns_26 rfl ?_
      refine J_callV1 kX9_202 cvX5_lengthAt hP.1 (c_X5_lengthAt hP m1 (by omega)) rfl rfl rfl rfl rfl dX9_mixSigns_28 rfl rfl ?_
      refine J_top (w.2 2 i) ?_ (by rw [if_pos hin]; exact m6 i hin.1 hin.2)
      refine J_i2l dX9_mixSigns_31 ?_ 
      refine J_callS1 kX9_325 csX9_mix c_X9_mix rfl rfl rfl rfl rfl dX9_mixSigns_32 rfl rfl ?_
      refine j_lstore_n 1 (L' := [(1, _), (4, _), (0, _), (3, _)]) dX9_mixSigns_35 rfl rfl rfl ?_
      refine j_lload_n 1 dX9_mixSigns_36 rfl rfl ?_
      refine j_aload_n 3 dX9_mixSigns_37 rfl rfl ?_
      refine j_iload dX9_mixSigns_38 rfl ?_
      refine J_callVZ kX9_203 cvX5_tiedAt hP.1 (c_X5_tiedAt hP m1 (by omega) (fun z => m2 i z.1 z.2)) rfl rfl rfl rfl rfl dX9_mixSigns_40 rfl rfl (fun z40 => ?_) (fun z40 => ?_)
      · refine J_if_eq 50 dX9_mixSigns_43 (by decide) (fun c43 => absurd c43 (by decide)) (fun c43 => ?_) 
        refine j_lconst (Int64.ofInt 1) dX9_mixSigns_46 (by decide) ?_
        refine j_goto 51 dX9_mixSigns_47 (by decide) ?_
        refine J_callS1 kX9_325 csX9_mix c_X9_mix rfl rfl rfl rfl rfl dX9_mixSigns_51 rfl rfl ?_
        refine j_lstore_n 1 (L' := [(1, _), (4, _), (0, _), (3, _)]) dX9_mixSigns_54 rfl rfl rfl ?_
        refine j_lload_n 1 dX9_mixSigns_55 rfl rfl ?_
        refine j_aload_n 3 dX9_mixSigns_56 rfl rfl ?_
        refine j_iload dX9_mixSigns_57 rfl ?_
        refine J_callV1 kX9_207 cvX5_shownAt hP.1 (c_X5_shownAt hP m1 (by omega)) rfl rfl rfl rfl rfl dX9_mixSigns_59 rfl rfl ?_
        refine J_top (w.2 5 i) ?_ (by rw [if_pos hin]; exact m8 i hin.1 hin.2)
        refine J_i2l dX9_mixSigns_62 ?_ 
        refine J_callS1 kX9_325 csX9_mix c_X9_mix rfl rfl rfl rfl rfl dX9_mixSigns_63 rfl rfl ?_
        refine j_lstore_n 1 (L' := [(1, _), (4, _), (0, _), (3, _)]) dX9_mixSigns_66 rfl rfl rfl ?_
        refine j_lload_n 1 dX9_mixSigns_67 rfl rfl ?_
        refine j_aload_n 3 dX9_mixSigns_68 rfl rfl ?_
        refine j_iload dX9_mixSigns_69 rfl ?_
        refine J_callV1 kX9_210 cvX5_shownAsWrittenAt hP.1 (c_X5_shownAsWrittenAt hP m1 (by omega)) rfl rfl rfl rfl rfl dX9_mixSigns_71 rfl rfl ?_
        refine J_top (w.2 6 i) ?_ (by rw [if_pos hin]; exact m9 i hin.1 hin.2)
        refine J_i2l dX9_mixSigns_74 ?_ 
        refine J_callS1 kX9_325 csX9_mix c_X9_mix rfl rfl rfl rfl rfl dX9_mixSigns_75 rfl rfl ?_
        refine j_lstore_n 1 (L' := [(1, _), (4, _), (0, _), (3, _)]) dX9_mixSigns_78 rfl rfl rfl ?_
        refine j_lload_n 1 dX9_mixSigns_79 rfl rfl ?_
        refine j_aload_n 3 dX9_mixSigns_80 rfl rfl ?_
        refine j_iload dX9_mixSigns_81 rfl ?_
        refine J_callV1 kX9_216 cvX5_beamAt hP.1 (c_X5_beamAt hP m1 (by omega)) rfl rfl rfl rfl rfl dX9_mixSigns_83 rfl rfl ?_
        refine J_top (w.2 7 i) ?_ (by rw [if_pos hin]; exact m10 i hin.1 hin.2)
        refine J_i2l dX9_mixSigns_86 ?_ 
        refine J_callS1 kX9_325 csX9_mix c_X9_mix rfl rfl rfl rfl rfl dX9_mixSigns_87 rfl rfl ?_
        refine j_lstore_n 1 (L' := [(1, _), (4, _), (0, _), (3, _)]) dX9_mixSigns_90 rfl rfl rfl ?_
        have e4 : bI (w.2 4 i ≠ 0) = 1 := by
          rw [← m7 i hin.1 hin.2]
          first | exact if_pos z40.2 | exact if_neg (fun z => z40 ⟨hin, z⟩)
        unfold sgL1 at g
        rw [e4] at g
        refine J_iinc (L' := [(4, _), (1, _), (0, _), (3, _)]) dX9_mixSigns_91 rfl rfl rfl ?_
        refine j_goto 3 dX9_mixSigns_94 (by decide) ?_
        exact j_locR g (by repeat' (first | exact True.intro | refine And.intro rfl ?_))
      · refine J_if_eq 50 dX9_mixSigns_43 (by decide) (fun c43 => ?_) (fun c43 => absurd c43 (by decide)) 
        refine j_lconst (Int64.ofInt 0) dX9_mixSigns_50 (by decide) ?_
        refine J_callS1 kX9_325 csX9_mix c_X9_mix rfl rfl rfl rfl rfl dX9_mixSigns_51 rfl rfl ?_
        refine j_lstore_n 1 (L' := [(1, _), (4, _), (0, _), (3, _)]) dX9_mixSigns_54 rfl rfl rfl ?_
        refine j_lload_n 1 dX9_mixSigns_55 rfl rfl ?_
        refine j_aload_n 3 dX9_mixSigns_56 rfl rfl ?_
        refine j_iload dX9_mixSigns_57 rfl ?_
        refine J_callV1 kX9_207 cvX5_shownAt hP.1 (c_X5_shownAt hP m1 (by omega)) rfl rfl rfl rfl rfl dX9_mixSigns_59 rfl rfl ?_
        refine J_top (w.2 5 i) ?_ (by rw [if_pos hin]; exact m8 i hin.1 hin.2)
        refine J_i2l dX9_mixSigns_62 ?_ 
        refine J_callS1 kX9_325 csX9_mix c_X9_mix rfl rfl rfl rfl rfl dX9_mixSigns_63 rfl rfl ?_
        refine j_lstore_n 1 (L' := [(1, _), (4, _), (0, _), (3, _)]) dX9_mixSigns_66 rfl rfl rfl ?_
        refine j_lload_n 1 dX9_mixSigns_67 rfl rfl ?_
        refine j_aload_n 3 dX9_mixSigns_68 rfl rfl ?_
        refine j_iload dX9_mixSigns_69 rfl ?_
        refine J_callV1 kX9_210 cvX5_shownAsWrittenAt hP.1 (c_X5_shownAsWrittenAt hP m1 (by omega)) rfl rfl rfl rfl rfl dX9_mixSigns_71 rfl rfl ?_
        refine J_top (w.2 6 i) ?_ (by rw [if_pos hin]; exact m9 i hin.1 hin.2)
        refine J_i2l dX9_mixSigns_74 ?_ 
        refine J_callS1 kX9_325 csX9_mix c_X9_mix rfl rfl rfl rfl rfl dX9_mixSigns_75 rfl rfl ?_
        refine j_lstore_n 1 (L' := [(1, _), (4, _), (0, _), (3, _)]) dX9_mixSigns_78 rfl rfl rfl ?_
        refine j_lload_n 1 dX9_mixSigns_79 rfl rfl ?_
        refine j_aload_n 3 dX9_mixSigns_80 rfl rfl ?_
        refine j_iload dX9_mixSigns_81 rfl ?_
        refine J_callV1 kX9_216 cvX5_beamAt hP.1 (c_X5_beamAt hP m1 (by omega)) rfl rfl rfl rfl rfl dX9_mixSigns_83 rfl rfl ?_
        refine J_top (w.2 7 i) ?_ (by rw [if_pos hin]; exact m10 i hin.1 hin.2)
        refine J_i2l dX9_mixSigns_86 ?_ 
        refine J_callS1 kX9_325 csX9_mix c_X9_mix rfl rfl rfl rfl rfl dX9_mixSigns_87 rfl rfl ?_
        refine j_lstore_n 1 (L' := [(1, _), (4, _), (0, _), (3, _)]) dX9_mixSigns_90 rfl rfl rfl ?_
        have e4 : bI (w.2 4 i ≠ 0) = 0 := by
          rw [← m7 i hin.1 hin.2]
          first | exact if_pos z40.2 | exact if_neg (fun z => z40 ⟨hin, z⟩)
        unfold sgL1 at g
        rw [e4] at g
        refine J_iinc (L' := [(4, _), (1, _), (0, _), (3, _)]) dX9_mixSigns_91 rfl rfl rfl ?_
        refine j_goto 3 dX9_mixSigns_94 (by decide) ?_
        exact j_locR g (by repeat' (first | exact True.intro | refine And.intro rfl ?_))
  refine j_body (by decide +kernel) ⟨rfl, rfl⟩ rfl ?_
  refine J_iconst dX9_mixSigns_0 ?_
  refine j_istore (L' := [(4, _), (0, _), (1, _), (3, _)]) dX9_mixSigns_1 rfl rfl ?_
  exact j_locR (loop (w.1 9).toNat 0 (by omega)) (by repeat' (first | exact True.intro | refine And.intro rfl ?_))
