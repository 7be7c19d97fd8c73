set_option maxRecDepth 100000 in
theorem c_X11_momentsNow {l : Launch} {G : jG} {h : jH} {a : Nat} {d : MD} {mp P : Nat → OS} {p p0 : OS} {Z : Nat → Nat} (hM : Mod G h a d mp p) (hZ : Mz a d Z) (hI : MI d P p0 mp p.2) : jC l G yX11_momentsNow mX11_momentsNow [.ref a] h (jW (oI (cntM P : Int)) (fun h' => ∃ p', Mod G h' a d mp p' ∧ WU p p' ∧ Fr (FtM a d) h h')) := by
  have hs := hI.1.1
  have hcl := cntM_le P
  have loop : ∀ (n m : Nat) (q : OS) (h2 : jH), m + n = cntM P → Mod G h2 a d mp q → WS P m q → WU p q → Fr (FtM a d) h h2 → J l G mX11_momentsNow (jQ G mX11_momentsNow (jW (oI (cntM P : Int)) (fun h' => ∃ p', Mod G h' a d mp p' ∧ WU p p' ∧ Fr (FtM a d) h h'))) 0 0 6 [(1, vI (m : Int)), (0, .ref a)] [] h2 := by
    intro n
    induction n with
    | zero =>
      intro m q h2 hm hM2 hW hU hF
      have hP := hM2.1
      have hend := cntM_end hs hI.1.2.1
      obtain rfl : m = cntM P := by omega
      refine j_aload_n 0 dX11_momentsNow_6 rfl rfl ?_
      refine J_callV1 kX11_248 cvX11_walk hP.1 (c0_X11_walk hM2 hZ (hU.mi hI) hW hend) rfl rfl rfl rfl rfl dX11_momentsNow_7 rfl rfl ?_
      refine J_if_eq 19 dX11_momentsNow_10 (by decide) (fun c10 => ?_) (fun c10 => absurd c10 (by decide)) 
      refine j_iload_n 1 dX11_momentsNow_19 rfl rfl ?_
      refine j_iret rfl dX11_momentsNow_20 ?_
      exact ⟨rfl, q, hM2, hU, hF⟩
    | succ n ih =>
      intro m q h2 hm hM2 hW hU hF
      have hP := hM2.1
      have hne := cntM_pos (P := P) (j := m) (by omega)
      refine j_aload_n 0 dX11_momentsNow_6 rfl rfl ?_
      refine J_callVW1 kX11_248 cvX11_walk hP.1 (c1_X11_walk hM2 hZ (hU.mi hI) hW hne) rfl rfl rfl rfl rfl dX11_momentsNow_7 rfl rfl (fun h hp => ?_)
      obtain ⟨q1, hM3, hW3, hU3, hF9⟩ := hp
      have hF := hF.tr hF9
      refine J_if_eq 19 dX11_momentsNow_10 (by decide) (fun c10 => absurd c10 (by decide)) (fun c10 => ?_) 
      refine J_iinc (L' := [(1, _), (0, _)]) dX11_momentsNow_13 rfl rfl rfl ?_
      refine j_goto 6 dX11_momentsNow_16 (by decide) ?_
      exact j_locR (ih (m + 1) q1 _ (by omega) hM3 hW3 (hU.tr hU3) hF) (by repeat' (first | exact True.intro | refine And.intro rfl ?_))
  refine j_body (by decide +kernel) ⟨rfl, rfl⟩ rfl ?_
  have hP := hM.1
  have hF : Fr (FtM a d) h h := Fr.rf
  refine J_iconst dX11_momentsNow_0 ?_
  refine j_istore_n 1 (L' := [(1, _), (0, _)]) dX11_momentsNow_1 rfl rfl rfl ?_
  refine j_aload_n 0 dX11_momentsNow_2 rfl rfl ?_
  refine J_callVW0 kX11_245 cvX11_beginWalk hP.1 (c_X11_beginWalk hM hZ hI) rfl rfl rfl rfl rfl dX11_momentsNow_3 rfl rfl (fun h hp => ?_)
  obtain ⟨p1, hM, hW1, hU1, hF9⟩ := hp
  have hF := hF.tr hF9
  exact j_locR (loop (cntM P) 0 p1 _ (by omega) hM hW1 hU1 hF) (by repeat' (first | exact True.intro | refine And.intro rfl ?_))
set_option maxRecDepth 100000 in
theorem c_X11_moments {l : Launch} {G : jG} {h : jH} {a : Nat} {d : MD} {mp P : Nat → OS} {p p0 : OS} {Z : Nat → Nat}  (hM : Mod G h a d mp p) (hZ : Mz a d Z) (hI : MI d P p0 mp p.2)  : jC l G yX11_moments mX11_moments [.ref a] h (jW (oI (cntM P : Int)) (fun h' => ∃ p', Mod G h' a d mp p' ∧ MI d P p0 mp p'.2 ∧ p'.1 0 = 0 ∧ Fr (FtM a d) h h')) := by
  refine j_body (by decide +kernel) ⟨rfl, rfl⟩ rfl ?_
  have hP := hM.1
  have hF : Fr (FtM a d) h h := Fr.rf
  obtain ⟨Fa, hpa, hFa⟩ := hM.2.1
  refine j_aload_n 0 dX11_moments_0 rfl rfl ?_
  refine J_iconst dX11_moments_1 ?_
  refine J_putA hP fX11_87 tyX11_thrown dX11_moments_2 rfl rfl (fun h hP hF2 => ?_)
  have hM := hM.w hZ hP hF2
  have hF := hF.tr (hF2.mono (fun _ q => Or.inl q))
  obtain ⟨Fa, hpa, hFa⟩ := hM.2.1
  refine j_aload_n 0 dX11_moments_5 rfl rfl ?_
  refine J_callVW1 kX11_252 cvX11_momentsNow hP.1 (c_X11_momentsNow hM hZ hI) rfl rfl rfl rfl rfl dX11_moments_6 rfl rfl (fun h hp => ?_)
  obtain ⟨p1, hM, hU1, hF9⟩ := hp
  have hF := hF.tr hF9
  have hP := hM.1
  refine j_iret rfl dX11_moments_9 ?_
  exact ⟨rfl, p1, hM, hU1.mi hI, hU1.1 0 (by decide), hF⟩
/-- the calendar's rows and the sum stay -/
def KV (p p' : OS) : Prop := p'.1 30 = p.1 30 ∧ p'.2 2 = p.2 2 ∧ p'.2 3 = p.2 3 ∧ p'.2 4 = p.2 4
theorem KV.mi {d : MD} {P mp : Nat → OS} {p0 p p' : OS} (h : KV p p') (hI : MI d P p0 mp p.2) : MI d P p0 mp p'.2 := hI.arr h.2.1 h.2.2.1 h.2.2.2
theorem KU.kv {p p' : OS} (h : KU p p') : KV p p' := h.2
theorem KV.tr {p p' p'' : OS} (a : KV p p') (b : KV p' p'') : KV p p'' := ⟨b.1.trans a.1, b.2.1.trans a.2.1, b.2.2.1.trans a.2.2.1, b.2.2.2.trans a.2.2.2⟩
set_option maxRecDepth 100000 in
theorem c1_X11_walkTo {l : Launch} {G : jG} {h : jH} {a : Nat} {d : MD} {mp P : Nat → OS} {p p0 : OS} {Z : Nat → Nat} {t : Int} (hM : Mod G h a d mp p) (hZ : Mz a d Z) (hI : MI d P p0 mp p.2) (ht : rg t) (hc : 0 ≤ t ∧ t < (cntM P : Int)) : jC l G yX11_walkTo mX11_walkTo [.ref a, vI t] h (jW (oI 1) (fun h' => ∃ p', Mod G h' a d mp p' ∧ WS P (t.toNat + 1) p' ∧ KV p p' ∧ p'.1 0 = 0 ∧ Fr (FtM a d) h h')) := by
  have hs := hI.1.1
  have hcl := cntM_le P
  have loop : 0 ≤ t → ∀ (n m : Nat) (q : OS) (h2 : jH), m + n = t.toNat → Mod G h2 a d mp q → WS P m q → KV p q → q.1 0 = 1 → Fr (FtM a d) h h2 → J l G mX11_walkTo (jQ G mX11_walkTo (jW (oI 1) (fun h' => ∃ p', Mod G h' a d mp p' ∧ WS P (t.toNat + 1) p' ∧ KV p p' ∧ p'.1 0 = 0 ∧ Fr (FtM a d) h h'))) 0 0 17 [(2, vI (t - m)), (0, .ref a), (1, vI t)] [] h2 := by
    intro ht0 n
    induction n with
    | zero =>
      intro m q h2 hm hM2 hW hK h1 hF
      have hP := hM2.1
      have hne := cntM_pos (P := P) (j := m) (by omega)
      have em : t.toNat = m := by omega
      refine j_aload_n 0 dX11_walkTo_17 rfl rfl ?_
      refine J_callVW1 kX11_248 cvX11_walk hP.1 (c1_X11_walk hM2 hZ (hK.mi hI) hW hne) rfl rfl rfl rfl rfl dX11_walkTo_18 rfl rfl (fun h hp => ?_)
      obtain ⟨q1, hM3, hW3, hU3, hF9⟩ := hp
      have hF := hF.tr hF9
      have hP := hM3.1
      refine J_if_eq 41 dX11_walkTo_21 (by decide) (fun c21 => absurd c21 (by decide)) (fun c21 => ?_) 
      refine j_iload_n 2 dX11_walkTo_24 rfl rfl ?_
      refine J_if_ne 35 dX11_walkTo_25 (by decide) (fun c25 => absurd c25 (by omega)) (fun c25 => ?_) 
      refine j_aload_n 0 dX11_walkTo_28 rfl rfl ?_
      refine J_iconst dX11_walkTo_29 ?_
      refine J_putA hP fX11_87 tyX11_thrown dX11_walkTo_30 rfl rfl (fun h hP hF30 => ?_)
      have hM4 := hM3.w hZ hP hF30
      have hF := hF.tr (hF30.mono (fun _ q => Or.inl q))
      refine J_iconst dX11_walkTo_33 ?_
      refine j_zret rfl rfl dX11_walkTo_34 ?_
      exact ⟨rfl, _, hM4, by rw [em]; exact hW3, hK.tr hU3.ku.kv, rfl, hF⟩
    | succ n ih =>
      intro m q h2 hm hM2 hW hK h1 hF
      have hP := hM2.1
      have hne := cntM_pos (P := P) (j := m) (by omega)
      refine j_aload_n 0 dX11_walkTo_17 rfl rfl ?_
      refine J_callVW1 kX11_248 cvX11_walk hP.1 (c1_X11_walk hM2 hZ (hK.mi hI) hW hne) rfl rfl rfl rfl rfl dX11_walkTo_18 rfl rfl (fun h hp => ?_)
      obtain ⟨q1, hM3, hW3, hU3, hF9⟩ := hp
      have hF := hF.tr hF9
      have hP := hM3.1
      refine J_if_eq 41 dX11_walkTo_21 (by decide) (fun c21 => absurd c21 (by decide)) (fun c21 => ?_) 
      refine j_iload_n 2 dX11_walkTo_24 rfl rfl ?_
      refine J_if_ne 35 dX11_walkTo_25 (by decide) (fun c25 => ?_) (fun c25 => absurd c25 (by omega)) 
      refine J_iinc (L' := [(2, vI (t - ((m + 1 : Nat) : Int))), (0, _), (1, _)]) dX11_walkTo_35 rfl rfl (by show jput _ 2 (vI (t - (m : Int) + (-1))) = _; rw [show t - (m : Int) + (-1) = t - ((m + 1 : Nat) : Int) by omega]; rfl) ?_
      refine j_goto 17 dX11_walkTo_38 (by decide) ?_
      exact j_locR (ih (m + 1) q1 _ (by omega) hM3 hW3 (hK.tr hU3.ku.kv) ((hU3.1 0 (by decide)).trans h1) hF) (by repeat' (first | exact True.intro | refine And.intro rfl ?_))
  refine j_body (by decide +kernel) ⟨rfl, rfl⟩ rfl ?_
  have hP := hM.1
  have hF : Fr (FtM a d) h h := Fr.rf
  refine j_aload_n 0 dX11_walkTo_0 rfl rfl ?_
  refine J_iconst dX11_walkTo_1 ?_
  refine J_putA hP fX11_87 tyX11_thrown dX11_walkTo_2 rfl rfl (fun h hP hF2 => ?_)
  have hM := hM.w hZ hP hF2
  have hF := hF.tr (hF2.mono (fun _ q => Or.inl q))
  refine j_iload_n 1 dX11_walkTo_5 rfl rfl ?_
  refine J_if_ge 11 dX11_walkTo_6 (by decide) (fun c6 => ?_) (fun c6 => absurd c6 (by omega)) 
  refine j_aload_n 0 dX11_walkTo_11 rfl rfl ?_
  refine J_callVW0 kX11_245 cvX11_beginWalk hP.1 (c_X11_beginWalk hM hZ hI) rfl rfl rfl rfl rfl dX11_walkTo_12 rfl rfl (fun h hp => ?_)
  obtain ⟨p1, hM, hW1, hU1, hF9⟩ := hp
  have hF := hF.tr hF9
  refine j_iload_n 1 dX11_walkTo_15 rfl rfl ?_
  refine j_istore_n 2 (L' := [(2, _), (0, _), (1, _)]) dX11_walkTo_16 rfl rfl rfl ?_
  exact j_locR (loop (by omega) (t.toNat) 0 p1 _ (by omega) hM hW1 (KV.tr (p' := oU p 0 1) ⟨rfl, rfl, rfl, rfl⟩ hU1.ku.kv) (hU1.1 0 (by decide)) hF) (by repeat' (first | exact True.intro | refine And.intro rfl ?_ | refine And.intro (by show some (vI t) = some (vI (t - ((0 : Nat) : Int))); rw [show t - ((0 : Nat) : Int) = t by omega]) ?_))
set_option maxRecDepth 100000 in
theorem c0_X11_walkTo {l : Launch} {G : jG} {h : jH} {a : Nat} {d : MD} {mp P : Nat → OS} {p p0 : OS} {Z : Nat → Nat} {t : Int} (hM : Mod G h a d mp p) (hZ : Mz a d Z) (hI : MI d P p0 mp p.2) (ht : rg t) (hc : ¬ (0 ≤ t ∧ t < (cntM P : Int))) : jC l G yX11_walkTo mX11_walkTo [.ref a, vI t] h (jW (oI 0) (fun h' => ∃ p', Mod G h' a d mp p' ∧ KV p p' ∧ p'.1 0 = 1 ∧ Fr (FtM a d) h h')) := by
  have hs := hI.1.1
  have hcl := cntM_le P
  have loop : 0 ≤ t → ∀ (n m : Nat) (q : OS) (h2 : jH), m + n = cntM P → Mod G h2 a d mp q → WS P m q → KV p q → q.1 0 = 1 → Fr (FtM a d) h h2 → J l G mX11_walkTo (jQ G mX11_walkTo (jW (oI 0) (fun h' => ∃ p', Mod G h' a d mp p' ∧ KV p p' ∧ p'.1 0 = 1 ∧ Fr (FtM a d) h h'))) 0 0 17 [(2, vI (t - m)), (0, .ref a), (1, vI t)] [] h2 := by
    intro ht0 n
    induction n with
    | zero =>
      intro m q h2 hm hM2 hW hK h1 hF
      have hP := hM2.1
      have hend := cntM_end hs hI.1.2.1
      obtain rfl : m = cntM P := by omega
      refine j_aload_n 0 dX11_walkTo_17 rfl rfl ?_
      refine J_callV1 kX11_248 cvX11_walk hP.1 (c0_X11_walk hM2 hZ (hK.mi hI) hW hend) rfl rfl rfl rfl rfl dX11_walkTo_18 rfl rfl ?_
      refine J_if_eq 41 dX11_walkTo_21 (by decide) (fun c21 => ?_) (fun c21 => absurd c21 (by decide)) 
      refine J_iconst dX11_walkTo_41 ?_
      refine j_zret rfl rfl dX11_walkTo_42 ?_
      exact ⟨rfl, q, hM2, hK, h1, hF⟩
    | succ n ih =>
      intro m q h2 hm hM2 hW hK h1 hF
      have hP := hM2.1
      have hne := cntM_pos (P := P) (j := m) (by omega)
      refine j_aload_n 0 dX11_walkTo_17 rfl rfl ?_
      refine J_callVW1 kX11_248 cvX11_walk hP.1 (c1_X11_walk hM2 hZ (hK.mi hI) hW hne) rfl rfl rfl rfl rfl dX11_walkTo_18 rfl rfl (fun h hp => ?_)
      obtain ⟨q1, hM3, hW3, hU3, hF9⟩ := hp
      have hF := hF.tr hF9
      have hP := hM3.1
      refine J_if_eq 41 dX11_walkTo_21 (by decide) (fun c21 => absurd c21 (by decide)) (fun c21 => ?_) 
      refine j_iload_n 2 dX11_walkTo_24 rfl rfl ?_
      refine J_if_ne 35 dX11_walkTo_25 (by decide) (fun c25 => ?_) (fun c25 => absurd c25 (by omega)) 
      refine J_iinc (L' := [(2, vI (t - ((m + 1 : Nat) : Int))), (0, _), (1, _)]) dX11_walkTo_35 rfl rfl (by show jput _ 2 (vI (t - (m : Int) + (-1))) = _; rw [show t - (m : Int) + (-1) = t - ((m + 1 : Nat) : Int) by omega]; rfl) ?_
      refine j_goto 17 dX11_walkTo_38 (by decide) ?_
      exact j_locR (ih (m + 1) q1 _ (by omega) hM3 hW3 (hK.tr hU3.ku.kv) ((hU3.1 0 (by decide)).trans h1) hF) (by repeat' (first | exact True.intro | refine And.intro rfl ?_))
  refine j_body (by decide +kernel) ⟨rfl, rfl⟩ rfl ?_
  have hP := hM.1
  have hF : Fr (FtM a d) h h := Fr.rf
  refine j_aload_n 0 dX11_walkTo_0 rfl rfl ?_
  refine J_iconst dX11_walkTo_1 ?_
  refine J_putA hP fX11_87 tyX11_thrown dX11_walkTo_2 rfl rfl (fun h hP hF2 => ?_)
  have hM := hM.w hZ hP hF2
  have hF := hF.tr (hF2.mono (fun _ q => Or.inl q))
  refine j_iload_n 1 dX11_walkTo_5 rfl rfl ?_
  refine J_if_ge 11 dX11_walkTo_6 (by decide) (fun c6 => ?_) (fun c6 => ?_) 
  · refine j_aload_n 0 dX11_walkTo_11 rfl rfl ?_
    refine J_callVW0 kX11_245 cvX11_beginWalk hP.1 (c_X11_beginWalk hM hZ hI) rfl rfl rfl rfl rfl dX11_walkTo_12 rfl rfl (fun h hp => ?_)
    obtain ⟨p1, hM, hW1, hU1, hF9⟩ := hp
    have hF := hF.tr hF9
    refine j_iload_n 1 dX11_walkTo_15 rfl rfl ?_
    refine j_istore_n 2 (L' := [(2, _), (0, _), (1, _)]) dX11_walkTo_16 rfl rfl rfl ?_
    exact j_locR (loop (by omega) (cntM P) 0 p1 _ (by omega) hM hW1 (KV.tr (p' := oU p 0 1) ⟨rfl, rfl, rfl, rfl⟩ hU1.ku.kv) (hU1.1 0 (by decide)) hF) (by repeat' (first | exact True.intro | refine And.intro rfl ?_ | refine And.intro (by show some (vI t) = some (vI (t - ((0 : Nat) : Int))); rw [show t - ((0 : Nat) : Int) = t by omega]) ?_))
  · refine J_iconst dX11_walkTo_9 ?_
    refine j_zret rfl rfl dX11_walkTo_10 ?_
    exact ⟨rfl, _, hM, ⟨rfl, rfl, rfl, rfl⟩, rfl, hF⟩
set_option maxRecDepth 100000 in
theorem c_X11_tickOf {l : Launch} {G : jG} {h : jH} {a : Nat} {d : MD} {mp P : Nat → OS} {p p0 : OS} {Z : Nat → Nat} {t : Int} (hM : Mod G h a d mp p) (hZ : Mz a d Z) (hI : MI d P p0 mp p.2) (ht : rg t) : jC l G yX11_tickOf mX11_tickOf [.ref a, vI t] h (jW (oI (if 0 ≤ t ∧ t < (cntM P : Int) then momT P t.toNat else 0)) (fun h' => ∃ p', Mod G h' a d mp p' ∧ MI d P p0 mp p'.2 ∧ p'.1 0 = (if 0 ≤ t ∧ t < (cntM P : Int) then 0 else 1) ∧ Fr (FtM a d) h h')) := by
  refine j_body (by decide +kernel) ⟨rfl, rfl⟩ rfl ?_
  have hP := hM.1
  have hF : Fr (FtM a d) h h := Fr.rf
  obtain ⟨Fa, hpa, hFa⟩ := hM.2.1
  have hs := hI.1.1
  by_cases hc : 0 ≤ t ∧ t < (cntM P : Int)
  · rw [if_pos hc, if_pos hc]
    refine j_aload_n 0 dX11_tickOf_0 rfl rfl ?_
    refine j_iload_n 1 dX11_tickOf_1 rfl rfl ?_
    refine J_callVW1 kX11_255 cvX11_walkTo hP.1 (c1_X11_walkTo hM hZ hI ht hc) rfl rfl rfl rfl rfl dX11_tickOf_2 rfl rfl (fun h hp => ?_)
    obtain ⟨p1, hM, hW1, hK1, h01, hF9⟩ := hp
    have hF := hF.tr hF9
    have hP := hM.1
    refine J_if_eq 15 dX11_tickOf_5 (by decide) (fun c5 => absurd c5 (by decide)) (fun c5 => ?_) 
    refine j_aload_n 0 dX11_tickOf_8 rfl rfl ?_
    refine j_get fX11_239 dX11_tickOf_9 hP.1 rfl ?_
    refine j_goto 16 dX11_tickOf_12 (by decide) ?_
    refine j_iret rfl dX11_tickOf_16 ?_
    exact ⟨oIe hW1.1, p1, hM, hK1.mi hI, h01, hF⟩
  · rw [if_neg hc, if_neg hc]
    refine j_aload_n 0 dX11_tickOf_0 rfl rfl ?_
    refine j_iload_n 1 dX11_tickOf_1 rfl rfl ?_
    refine J_callVW1 kX11_255 cvX11_walkTo hP.1 (c0_X11_walkTo hM hZ hI ht hc) rfl rfl rfl rfl rfl dX11_tickOf_2 rfl rfl (fun h hp => ?_)
    obtain ⟨p1, hM, hK1, h01, hF9⟩ := hp
    have hF := hF.tr hF9
    have hP := hM.1
    refine J_if_eq 15 dX11_tickOf_5 (by decide) (fun c5 => ?_) (fun c5 => absurd c5 (by decide)) 
    refine J_iconst dX11_tickOf_15 ?_
    refine j_iret rfl dX11_tickOf_16 ?_
    exact ⟨rfl, p1, hM, hK1.mi hI, h01, hF⟩
set_option maxRecDepth 100000 in
theorem c_X11_root {l : Launch} {G : jG} {h : jH} {a : Nat} {d : MD} {mp P : Nat → OS} {p p0 : OS} {Z : Nat → Nat} {t : Int} (hM : Mod G h a d mp p) (hZ : Mz a d Z) (hI : MI d P p0 mp p.2) (ht : rg t) : jC l G yX11_root mX11_root [.ref a, vI t] h (jW (oI (if 0 ≤ t ∧ t < (cntM P : Int) then (chdF P t.toNat).1 0 else 0)) (fun h' => ∃ p', Mod G h' a d mp p' ∧ MI d P p0 mp p'.2 ∧ p'.1 0 = (if 0 ≤ t ∧ t < (cntM P : Int) then 0 else 1) ∧ Fr (FtM a d) h h')) := by
  refine j_body (by decide +kernel) ⟨rfl, rfl⟩ rfl ?_
  have hP := hM.1
  have hF : Fr (FtM a d) h h := Fr.rf
  obtain ⟨Fa, hpa, hFa⟩ := hM.2.1
  have hs := hI.1.1
  by_cases hc : 0 ≤ t ∧ t < (cntM P : Int)
  · rw [if_pos hc, if_pos hc]
    refine j_aload_n 0 dX11_root_0 rfl rfl ?_
    refine j_iload_n 1 dX11_root_1 rfl rfl ?_
    refine J_callVW1 kX11_255 cvX11_walkTo hP.1 (c1_X11_walkTo hM hZ hI ht hc) rfl rfl rfl rfl rfl dX11_root_2 rfl rfl (fun h hp => ?_)
    obtain ⟨p1, hM, hW1, hK1, h01, hF9⟩ := hp
    have hF := hF.tr hF9
    have hP := hM.1
    refine J_if_ne 10 dX11_root_5 (by decide) (fun c5 => ?_) (fun c5 => absurd c5 (by decide)) 
    refine j_aload_n 0 dX11_root_10 rfl rfl ?_
    refine j_callV (ck' := 0) (sk' := 0) kX11_270 cvX11_findChord hP.1 (c_X11_findChord hM hZ (hK1.mi hI) hW1) rfl rfl rfl rfl rfl dX11_root_11 (by decide) (by decide) (fun v h hp => ?_) (fun E h hp => by cases hp.1)
    obtain ⟨ev, p2, hM, hT2, hU2, hF9⟩ := hp
    cases ev
    have hF := hF.tr hF9
    have hP := hM.1
    refine j_aload_n 0 dX11_root_14 rfl rfl ?_
    refine j_get fX11_261 dX11_root_15 hP.1 rfl ?_
    refine j_iret rfl dX11_root_18 ?_
    exact ⟨oIe (congrArg (fun t : T3 => t.1) hT2), p2, hM, hU2.mi (hK1.mi hI), hU2.ku.1.trans h01, hF⟩
  · rw [if_neg hc, if_neg hc]
    refine j_aload_n 0 dX11_root_0 rfl rfl ?_
    refine j_iload_n 1 dX11_root_1 rfl rfl ?_
    refine J_callVW1 kX11_255 cvX11_walkTo hP.1 (c0_X11_walkTo hM hZ hI ht hc) rfl rfl rfl rfl rfl dX11_root_2 rfl rfl (fun h hp => ?_)
    obtain ⟨p1, hM, hK1, h01, hF9⟩ := hp
    have hF := hF.tr hF9
    have hP := hM.1
    refine J_if_ne 10 dX11_root_5 (by decide) (fun c5 => absurd c5 (by decide)) (fun c5 => ?_) 
    refine J_iconst dX11_root_8 ?_
    refine j_iret rfl dX11_root_9 ?_
    exact ⟨rfl, p1, hM, hK1.mi hI, h01, hF⟩
set_option maxRecDepth 100000 in
theorem c_X11_kind {l : Launch} {G : jG} {h : jH} {a : Nat} {d : MD} {mp P : Nat → OS} {p p0 : OS} {Z : Nat → Nat} {t : Int} (hM : Mod G h a d mp p) (hZ : Mz a d Z) (hI : MI d P p0 mp p.2) (ht : rg t) : jC l G yX11_kind mX11_kind [.ref a, vI t] h (jW (oI (if 0 ≤ t ∧ t < (cntM P : Int) then (chdF P t.toNat).1 1 else 0)) (fun h' => ∃ p', Mod G h' a d mp p' ∧ MI d P p0 mp p'.2 ∧ p'.1 0 = (if 0 ≤ t ∧ t < (cntM P : Int) then 0 else 1) ∧ Fr (FtM a d) h h')) := by
  refine j_body (by decide +kernel) ⟨rfl, rfl⟩ rfl ?_
  have hP := hM.1
  have hF : Fr (FtM a d) h h := Fr.rf
  obtain ⟨Fa, hpa, hFa⟩ := hM.2.1
  have hs := hI.1.1
  by_cases hc : 0 ≤ t ∧ t < (cntM P : Int)
  · rw [if_pos hc, if_pos hc]
    refine j_aload_n 0 dX11_kind_0 rfl rfl ?_
    refine j_iload_n 1 dX11_kind_1 rfl rfl ?_
    refine J_callVW1 kX11_255 cvX11_walkTo hP.1 (c1_X11_walkTo hM hZ hI ht hc) rfl rfl rfl rfl rfl dX11_kind_2 rfl rfl (fun h hp => ?_)
    obtain ⟨p1, hM, hW1, hK1, h01, hF9⟩ := hp
    have hF := hF.tr hF9
    have hP := hM.1
    refine J_if_ne 10 dX11_kind_5 (by decide) (fun c5 => ?_) (fun c5 => absurd c5 (by decide)) 
    refine j_aload_n 0 dX11_kind_10 rfl rfl ?_
    refine j_callV (ck' := 0) (sk' := 0) kX11_270 cvX11_findChord hP.1 (c_X11_findChord hM hZ (hK1.mi hI) hW1) rfl rfl rfl rfl rfl dX11_kind_11 (by decide) (by decide) (fun v h hp => ?_) (fun E h hp => by cases hp.1)
    obtain ⟨ev, p2, hM, hT2, hU2, hF9⟩ := hp
    cases ev
    have hF := hF.tr hF9
    have hP := hM.1
    refine j_aload_n 0 dX11_kind_14 rfl rfl ?_
    refine j_get fX11_264 dX11_kind_15 hP.1 rfl ?_
    refine j_iret rfl dX11_kind_18 ?_
    exact ⟨oIe (congrArg (fun t : T3 => t.2.1) hT2), p2, hM, hU2.mi (hK1.mi hI), hU2.ku.1.trans h01, hF⟩
  · rw [if_neg hc, if_neg hc]
    refine j_aload_n 0 dX11_kind_0 rfl rfl ?_
    refine j_iload_n 1 dX11_kind_1 rfl rfl ?_
    refine J_callVW1 kX11_255 cvX11_walkTo hP.1 (c0_X11_walkTo hM hZ hI ht hc) rfl rfl rfl rfl rfl dX11_kind_2 rfl rfl (fun h hp => ?_)
    obtain ⟨p1, hM, hK1, h01, hF9⟩ := hp
    have hF := hF.tr hF9
    have hP := hM.1
    refine J_if_ne 10 dX11_kind_5 (by decide) (fun c5 => absurd c5 (by decide)) (fun c5 => ?_) 
    refine J_iconst dX11_kind_8 ?_
    refine j_iret rfl dX11_kind_9 ?_
    exact ⟨rfl, p1, hM, hK1.mi hI, h01, hF⟩
set_option maxRecDepth 100000 in
theorem c_X11_inversion {l : Launch} {G : jG} {h : jH} {a : Nat} {d : MD} {mp P : Nat → OS} {p p0 : OS} {Z : Nat → Nat} {t : Int} (hM : Mod G h a d mp p) (hZ : Mz a d Z) (hI : MI d P p0 mp p.2) (ht : rg t) : jC l G yX11_inversion mX11_inversion [.ref a, vI t] h (jW (oI (if 0 ≤ t ∧ t < (cntM P : Int) then (chdF P t.toNat).1 2 else 0)) (fun h' => ∃ p', Mod G h' a d mp p' ∧ MI d P p0 mp p'.2 ∧ p'.1 0 = (if 0 ≤ t ∧ t < (cntM P : Int) then 0 else 1) ∧ Fr (FtM a d) h h')) := by
  refine j_body (by decide +kernel) ⟨rfl, rfl⟩ rfl ?_
  have hP := hM.1
  have hF : Fr (FtM a d) h h := Fr.rf
  obtain ⟨Fa, hpa, hFa⟩ := hM.2.1
  have hs := hI.1.1
  by_cases hc : 0 ≤ t ∧ t < (cntM P : Int)
  · rw [if_pos hc, if_pos hc]
    refine j_aload_n 0 dX11_inversion_0 rfl rfl ?_
    refine j_iload_n 1 dX11_inversion_1 rfl rfl ?_
    refine J_callVW1 kX11_255 cvX11_walkTo hP.1 (c1_X11_walkTo hM hZ hI ht hc) rfl rfl rfl rfl rfl dX11_inversion_2 rfl rfl (fun h hp => ?_)
    obtain ⟨p1, hM, hW1, hK1, h01, hF9⟩ := hp
    have hF := hF.tr hF9
    have hP := hM.1
    refine J_if_ne 10 dX11_inversion_5 (by decide) (fun c5 => ?_) (fun c5 => absurd c5 (by decide)) 
    refine j_aload_n 0 dX11_inversion_10 rfl rfl ?_
    refine j_callV (ck' := 0) (sk' := 0) kX11_270 cvX11_findChord hP.1 (c_X11_findChord hM hZ (hK1.mi hI) hW1) rfl rfl rfl rfl rfl dX11_inversion_11 (by decide) (by decide) (fun v h hp => ?_) (fun E h hp => by cases hp.1)
    obtain ⟨ev, p2, hM, hT2, hU2, hF9⟩ := hp
    cases ev
    have hF := hF.tr hF9
    have hP := hM.1
    refine j_aload_n 0 dX11_inversion_14 rfl rfl ?_
    refine j_get fX11_267 dX11_inversion_15 hP.1 rfl ?_
    refine j_iret rfl dX11_inversion_18 ?_
    exact ⟨oIe (congrArg (fun t : T3 => t.2.2) hT2), p2, hM, hU2.mi (hK1.mi hI), hU2.ku.1.trans h01, hF⟩
  · rw [if_neg hc, if_neg hc]
    refine j_aload_n 0 dX11_inversion_0 rfl rfl ?_
    refine j_iload_n 1 dX11_inversion_1 rfl rfl ?_
    refine J_callVW1 kX11_255 cvX11_walkTo hP.1 (c0_X11_walkTo hM hZ hI ht hc) rfl rfl rfl rfl rfl dX11_inversion_2 rfl rfl (fun h hp => ?_)
    obtain ⟨p1, hM, hK1, h01, hF9⟩ := hp
    have hF := hF.tr hF9
    have hP := hM.1
    refine J_if_ne 10 dX11_inversion_5 (by decide) (fun c5 => absurd c5 (by decide)) (fun c5 => ?_) 
    refine J_iconst dX11_inversion_8 ?_
    refine j_iret rfl dX11_inversion_9 ?_
    exact ⟨rfl, p1, hM, hK1.mi hI, h01, hF⟩
set_option maxRecDepth 100000 in
theorem c_X11_sounds {l : Launch} {G : jG} {h : jH} {a : Nat} {d : MD} {mp P : Nat → OS} {p p0 : OS} {Z : Nat → Nat} {t k : Int} (hM : Mod G h a d mp p) (hZ : Mz a d Z) (hI : MI d P p0 mp p.2) (ht : rg t) (hk : rg k) : jC l G yX11_sounds mX11_sounds [.ref a, vI t, vI k] h (jW (oI (if (0 ≤ t ∧ t < (cntM P : Int)) ∧ 0 ≤ k ∧ k < 4 then hiM P t.toNat k else 0)) (fun h' => ∃ p', Mod G h' a d mp p' ∧ MI d P p0 mp p'.2 ∧ p'.1 0 = (if (0 ≤ t ∧ t < (cntM P : Int)) ∧ 0 ≤ k ∧ k < 4 then 0 else 1) ∧ Fr (FtM a d) h h')) := by
  refine j_body (by decide +kernel) ⟨rfl, rfl⟩ rfl ?_
  have hP := hM.1
  have hF : Fr (FtM a d) h h := Fr.rf
  obtain ⟨Fa, hpa, hFa⟩ := hM.2.1
  have hs := hI.1.1
  by_cases hc : 0 ≤ t ∧ t < (cntM P : Int)
  · refine j_aload_n 0 dX11_sounds_0 rfl rfl ?_
    refine j_iload_n 1 dX11_sounds_1 rfl rfl ?_
    refine J_callVW1 kX11_255 cvX11_walkTo hP.1 (c1_X11_walkTo hM hZ hI ht hc) rfl rfl rfl rfl rfl dX11_sounds_2 rfl rfl (fun h hp => ?_)
    obtain ⟨p1, hM, hW1, hK1, h01, hF9⟩ := hp
    have hF := hF.tr hF9
    have hP := hM.1
    refine J_if_ne 10 dX11_sounds_5 (by decide) (fun c5 => ?_) (fun c5 => absurd c5 (by decide)) 
    refine j_iload_n 2 dX11_sounds_10 rfl rfl ?_
    refine J_callSZ kX11_95 csX11_isPart (c_X11_isPart hk) rfl rfl rfl rfl rfl dX11_sounds_11 rfl rfl (fun z11 => ?_) (fun z11 => ?_)
    · refine J_if_eq 25 dX11_sounds_14 (by decide) (fun c14 => absurd c14 (by decide)) (fun c14 => ?_) 
      refine j_aload_n 0 dX11_sounds_17 rfl rfl ?_
      refine j_iload_n 2 dX11_sounds_18 rfl rfl ?_
      refine J_callV1 kX11_258 cvX11_soundsNow hP.1 (c_X11_soundsNow hM hZ (hK1.mi hI) hW1 z11) rfl rfl rfl rfl rfl dX11_sounds_19 rfl rfl ?_
      refine j_goto 30 dX11_sounds_22 (by decide) ?_
      refine j_iret rfl dX11_sounds_30 ?_
      first | exact ⟨oIe (if_pos ⟨hc, z11⟩).symm, p1, hM, hK1.mi hI, h01.trans (if_pos ⟨hc, z11⟩).symm, hF⟩ | exact ⟨oIe (if_neg (fun z => z11 z.2)).symm, _, hM, hK1.mi hI, (if_neg (fun z => z11 z.2)).symm, hF⟩
    · refine J_if_eq 25 dX11_sounds_14 (by decide) (fun c14 => ?_) (fun c14 => absurd c14 (by decide)) 
      refine j_aload_n 0 dX11_sounds_25 rfl rfl ?_
      refine J_iconst dX11_sounds_26 ?_
      refine J_callVW1 kX11_115 cvX11_refuse hP.1 (c_X11_refuse hM hZ (hK1.mi hI)) rfl rfl rfl rfl rfl dX11_sounds_27 rfl rfl (fun h hp => ?_)
      obtain ⟨hM, hF9⟩ := hp
      have hF := hF.tr hF9
      refine j_iret rfl dX11_sounds_30 ?_
      first | exact ⟨oIe (if_pos ⟨hc, z11⟩).symm, p1, hM, hK1.mi hI, h01.trans (if_pos ⟨hc, z11⟩).symm, hF⟩ | exact ⟨oIe (if_neg (fun z => z11 z.2)).symm, _, hM, hK1.mi hI, (if_neg (fun z => z11 z.2)).symm, hF⟩
  · refine j_aload_n 0 dX11_sounds_0 rfl rfl ?_
    refine j_iload_n 1 dX11_sounds_1 rfl rfl ?_
    refine J_callVW1 kX11_255 cvX11_walkTo hP.1 (c0_X11_walkTo hM hZ hI ht hc) rfl rfl rfl rfl rfl dX11_sounds_2 rfl rfl (fun h hp => ?_)
    obtain ⟨p1, hM, hK1, h01, hF9⟩ := hp
    have hF := hF.tr hF9
    have hP := hM.1
    refine J_if_ne 10 dX11_sounds_5 (by decide) (fun c5 => absurd c5 (by decide)) (fun c5 => ?_) 
    refine J_iconst dX11_sounds_8 ?_
    refine j_iret rfl dX11_sounds_9 ?_
    exact ⟨oIe (if_neg (fun z => hc z.1)).symm, p1, hM, hK1.mi hI, h01.trans (if_neg (fun z => hc z.1)).symm, hF⟩
set_option maxRecDepth 100000 in
theorem c_X11_faults {l : Launch} {G : jG} {h : jH} {a : Nat} {d : MD} {mp P : Nat → OS} {p p0 : OS} {Z : Nat → Nat}  (hM : Mod G h a d mp p) (hZ : Mz a d Z) (hI : MI d P p0 mp p.2)  : jC l G yX11_faults mX11_faults [.ref a] h (jW (oI ((fauA P).length : Int)) (fun h' => ∃ p', Mod G h' a d mp p' ∧ MI d P p0 mp p'.2 ∧ p'.1 0 = 0 ∧ Fr (FtM a d) h h')) := by
  refine j_body (by decide +kernel) ⟨rfl, rfl⟩ rfl ?_
  have hP := hM.1
  have hF : Fr (FtM a d) h h := Fr.rf
  obtain ⟨Fa, hpa, hFa⟩ := hM.2.1
  refine j_aload_n 0 dX11_faults_0 rfl rfl ?_
  refine J_iconst dX11_faults_1 ?_
  refine J_putA hP fX11_87 tyX11_thrown dX11_faults_2 rfl rfl (fun h hP hF2 => ?_)
  have hM := hM.w hZ hP hF2
  have hF := hF.tr (hF2.mono (fun _ q => Or.inl q))
  obtain ⟨Fa, hpa, hFa⟩ := hM.2.1
  refine j_aload_n 0 dX11_faults_5 rfl rfl ?_
  refine J_iconst dX11_faults_6 ?_
  refine J_callVW1 kX11_301 cvX11_countFaults hP.1 (c_X11_countFaults hM hZ hI (by decide)) rfl rfl rfl rfl rfl dX11_faults_7 rfl rfl (fun h hp => ?_)
  obtain ⟨p1, hM, hS1, hK1, hF9⟩ := hp
  have hF := hF.tr hF9
  refine j_iret rfl dX11_faults_10 ?_
  exact ⟨rfl, p1, hM, hK1.mi hI, hK1.1, hF⟩
set_option maxRecDepth 100000 in
theorem c1_X11_hasFault {l : Launch} {G : jG} {h : jH} {a : Nat} {d : MD} {mp P : Nat → OS} {p p0 : OS} {Z : Nat → Nat} {t : Int} (hM : Mod G h a d mp p) (hZ : Mz a d Z) (hI : MI d P p0 mp p.2) (ht : rg t) (hc : 0 ≤ t ∧ t < ((fauA P).length : Int)) : jC l G yX11_hasFault mX11_hasFault [.ref a, vI t] h (jW (oI 1) (fun h' => ∃ p', Mod G h' a d mp p' ∧ FS t (fauA P) p' ∧ KV p p' ∧ p'.1 0 = 0 ∧ Fr (FtM a d) h h')) := by
  refine j_body (by decide +kernel) ⟨rfl, rfl⟩ rfl ?_
  have hP := hM.1
  have hF : Fr (FtM a d) h h := Fr.rf
  obtain ⟨Fa, hpa, hFa⟩ := hM.2.1
  have hs := hI.1.1
  have hfl := fauA_len hs hI.1.2.1
  refine j_aload_n 0 dX11_hasFault_0 rfl rfl ?_
  refine j_iload_n 1 dX11_hasFault_1 rfl rfl ?_
  refine J_if_lt 18 dX11_hasFault_2 (by decide) (fun c2 => absurd c2 (by omega)) (fun c2 => ?_) 
  refine j_iload_n 1 dX11_hasFault_5 rfl rfl ?_
  refine j_aload_n 0 dX11_hasFault_6 rfl rfl ?_
  refine j_iload_n 1 dX11_hasFault_7 rfl rfl ?_
  refine J_callVW1 kX11_301 cvX11_countFaults hP.1 (c_X11_countFaults hM hZ hI ht) rfl rfl rfl rfl rfl dX11_hasFault_8 rfl rfl (fun h hp => ?_)
  obtain ⟨p1, hM, hS1, hK1, hF9⟩ := hp
  have hF := hF.tr hF9
  have hP := hM.1
  refine J_icmp_ge 18 dX11_hasFault_11 (by decide) (fun c11 => absurd c11 (by omega)) (fun c11 => ?_) 
  refine J_iconst dX11_hasFault_14 ?_
  refine j_goto 19 dX11_hasFault_15 (by decide) ?_
  refine J_putA hP fX11_87 tyX11_thrown dX11_hasFault_19 rfl rfl (fun h hP hF19 => ?_)
  have hM := hM.w hZ hP hF19
  have hF := hF.tr (hF19.mono (fun _ q => Or.inl q))
  obtain ⟨Fa, hpa, hFa⟩ := hM.2.1
  refine j_aload_n 0 dX11_hasFault_22 rfl rfl ?_
  refine j_get fX11_87 dX11_hasFault_23 hP.1 rfl ?_
  refine J_top (0) ?_ (by rfl)
  refine J_if_ne 33 dX11_hasFault_26 (by decide) (fun c26 => absurd c26 (by decide)) (fun c26 => ?_) 
  refine J_iconst dX11_hasFault_29 ?_
  refine j_goto 34 dX11_hasFault_30 (by decide) ?_
  refine j_zret rfl rfl dX11_hasFault_34 ?_
  exact ⟨rfl, _, hM, ⟨hS1.1, hS1.2.1, hS1.2.2⟩, ⟨hK1.2.1, hK1.2.2.1, hK1.2.2.2.1, hK1.2.2.2.2⟩, rfl, hF⟩
set_option maxRecDepth 100000 in
theorem c0_X11_hasFault {l : Launch} {G : jG} {h : jH} {a : Nat} {d : MD} {mp P : Nat → OS} {p p0 : OS} {Z : Nat → Nat} {t : Int} (hM : Mod G h a d mp p) (hZ : Mz a d Z) (hI : MI d P p0 mp p.2) (ht : rg t) (hc : ¬ (0 ≤ t ∧ t < ((fauA P).length : Int))) : jC l G yX11_hasFault mX11_hasFault [.ref a, vI t] h (jW (oI 0) (fun h' => ∃ p', Mod G h' a d mp p' ∧ KV p p' ∧ p'.1 0 = 1 ∧ Fr (FtM a d) h h')) := by
  refine j_body (by decide +kernel) ⟨rfl, rfl⟩ rfl ?_
  have hP := hM.1
  have hF : Fr (FtM a d) h h := Fr.rf
  obtain ⟨Fa, hpa, hFa⟩ := hM.2.1
  have hs := hI.1.1
  have hfl := fauA_len hs hI.1.2.1
  refine j_aload_n 0 dX11_hasFault_0 rfl rfl ?_
  refine j_iload_n 1 dX11_hasFault_1 rfl rfl ?_
  refine J_if_lt 18 dX11_hasFault_2 (by decide) (fun c2 => ?_) (fun c2 => ?_) 
  · refine J_iconst dX11_hasFault_18 ?_
    refine J_putA hP fX11_87 tyX11_thrown dX11_hasFault_19 rfl rfl (fun h hP hF19 => ?_)
    have hM := hM.w hZ hP hF19
    have hF := hF.tr (hF19.mono (fun _ q => Or.inl q))
    obtain ⟨Fa, hpa, hFa⟩ := hM.2.1
    refine j_aload_n 0 dX11_hasFault_22 rfl rfl ?_
    refine j_get fX11_87 dX11_hasFault_23 hP.1 rfl ?_
    refine J_top (1) ?_ (by rfl)
    refine J_if_ne 33 dX11_hasFault_26 (by decide) (fun c26 => ?_) (fun c26 => absurd c26 (by decide)) 
    refine J_iconst dX11_hasFault_33 ?_
    refine j_zret rfl rfl dX11_hasFault_34 ?_
    first | exact ⟨rfl, _, hM, ⟨hK1.2.1, hK1.2.2.1, hK1.2.2.2.1, hK1.2.2.2.2⟩, rfl, hF⟩ | exact ⟨rfl, _, hM, ⟨rfl, rfl, rfl, rfl⟩, rfl, hF⟩
  · refine j_iload_n 1 dX11_hasFault_5 rfl rfl ?_
    refine j_aload_n 0 dX11_hasFault_6 rfl rfl ?_
    refine j_iload_n 1 dX11_hasFault_7 rfl rfl ?_
    refine J_callVW1 kX11_301 cvX11_countFaults hP.1 (c_X11_countFaults hM hZ hI ht) rfl rfl rfl rfl rfl dX11_hasFault_8 rfl rfl (fun h hp => ?_)
    obtain ⟨p1, hM, hS1, hK1, hF9⟩ := hp
    have hF := hF.tr hF9
    have hP := hM.1
    refine J_icmp_ge 18 dX11_hasFault_11 (by decide) (fun c11 => ?_) (fun c11 => ?_) 
    · refine J_iconst dX11_hasFault_18 ?_
      refine J_putA hP fX11_87 tyX11_thrown dX11_hasFault_19 rfl rfl (fun h hP hF19 => ?_)
      have hM := hM.w hZ hP hF19
      have hF := hF.tr (hF19.mono (fun _ q => Or.inl q))
      obtain ⟨Fa, hpa, hFa⟩ := hM.2.1
      refine j_aload_n 0 dX11_hasFault_22 rfl rfl ?_
      refine j_get fX11_87 dX11_hasFault_23 hP.1 rfl ?_
      refine J_top (1) ?_ (by rfl)
      refine J_if_ne 33 dX11_hasFault_26 (by decide) (fun c26 => ?_) (fun c26 => absurd c26 (by decide)) 
      refine J_iconst dX11_hasFault_33 ?_
      refine j_zret rfl rfl dX11_hasFault_34 ?_
      first | exact ⟨rfl, _, hM, ⟨hK1.2.1, hK1.2.2.1, hK1.2.2.2.1, hK1.2.2.2.2⟩, rfl, hF⟩ | exact ⟨rfl, _, hM, ⟨rfl, rfl, rfl, rfl⟩, rfl, hF⟩
    · exact absurd ⟨c2, c11⟩ hc
theorem FS.at {t : Int} {L : FL} {p : OS} (h : FS t L p) (hc : 0 ≤ t ∧ t < (L.length : Int)) : p.1 24 = (L[t.toNat]?.getD (0, 0, 0)).1 ∧ p.1 25 = (L[t.toNat]?.getD (0, 0, 0)).2.1 ∧ p.1 26 = (L[t.toNat]?.getD (0, 0, 0)).2.2 := by
  have hl : t.toNat < L.length := by omega
  rw [List.getElem?_eq_getElem hl]
  exact h.2.2 _ hc.1 (List.getElem?_eq_getElem hl)
set_option maxRecDepth 100000 in
theorem c_X11_kindOfFault {l : Launch} {G : jG} {h : jH} {a : Nat} {d : MD} {mp P : Nat → OS} {p p0 : OS} {Z : Nat → Nat} {t : Int} (hM : Mod G h a d mp p) (hZ : Mz a d Z) (hI : MI d P p0 mp p.2) (ht : rg t) : jC l G yX11_kindOfFault mX11_kindOfFault [.ref a, vI t] h (jW (oI (if 0 ≤ t ∧ t < ((fauA P).length : Int) then ((fauA P)[t.toNat]?.getD (0, 0, 0)).1 else 0)) (fun h' => ∃ p', Mod G h' a d mp p' ∧ MI d P p0 mp p'.2 ∧ p'.1 0 = (if 0 ≤ t ∧ t < ((fauA P).length : Int) then 0 else 1) ∧ Fr (FtM a d) h h')) := by
  refine j_body (by decide +kernel) ⟨rfl, rfl⟩ rfl ?_
  have hP := hM.1
  have hF : Fr (FtM a d) h h := Fr.rf
  obtain ⟨Fa, hpa, hFa⟩ := hM.2.1
  by_cases hc : 0 ≤ t ∧ t < ((fauA P).length : Int)
  · rw [if_pos hc, if_pos hc]
    refine j_aload_n 0 dX11_kindOfFault_0 rfl rfl ?_
    refine j_iload_n 1 dX11_kindOfFault_1 rfl rfl ?_
    refine J_callVW1 kX11_304 cvX11_hasFault hP.1 (c1_X11_hasFault hM hZ hI ht hc) rfl rfl rfl rfl rfl dX11_kindOfFault_2 rfl rfl (fun h hp => ?_)
    obtain ⟨p1, hM, hS1, hK1, h01, hF9⟩ := hp
    have hF := hF.tr hF9
    have hP := hM.1
    refine J_if_eq 15 dX11_kindOfFault_5 (by decide) (fun c5 => absurd c5 (by decide)) (fun c5 => ?_) 
    refine j_aload_n 0 dX11_kindOfFault_8 rfl rfl ?_
    refine j_get fX11_279 dX11_kindOfFault_9 hP.1 rfl ?_
    refine j_goto 16 dX11_kindOfFault_12 (by decide) ?_
    refine j_iret rfl dX11_kindOfFault_16 ?_
    exact ⟨oIe (hS1.at hc).1, p1, hM, hK1.mi hI, h01, hF⟩
  · rw [if_neg hc, if_neg hc]
    refine j_aload_n 0 dX11_kindOfFault_0 rfl rfl ?_
    refine j_iload_n 1 dX11_kindOfFault_1 rfl rfl ?_
    refine J_callVW1 kX11_304 cvX11_hasFault hP.1 (c0_X11_hasFault hM hZ hI ht hc) rfl rfl rfl rfl rfl dX11_kindOfFault_2 rfl rfl (fun h hp => ?_)
    obtain ⟨p1, hM, hK1, h01, hF9⟩ := hp
    have hF := hF.tr hF9
    have hP := hM.1
    refine J_if_eq 15 dX11_kindOfFault_5 (by decide) (fun c5 => ?_) (fun c5 => absurd c5 (by decide)) 
    refine J_iconst dX11_kindOfFault_15 ?_
    refine j_iret rfl dX11_kindOfFault_16 ?_
    exact ⟨rfl, p1, hM, hK1.mi hI, h01, hF⟩
set_option maxRecDepth 100000 in
theorem c_X11_tickOfFault {l : Launch} {G : jG} {h : jH} {a : Nat} {d : MD} {mp P : Nat → OS} {p p0 : OS} {Z : Nat → Nat} {t : Int} (hM : Mod G h a d mp p) (hZ : Mz a d Z) (hI : MI d P p0 mp p.2) (ht : rg t) : jC l G yX11_tickOfFault mX11_tickOfFault [.ref a, vI t] h (jW (oI (if 0 ≤ t ∧ t < ((fauA P).length : Int) then ((fauA P)[t.toNat]?.getD (0, 0, 0)).2.1 else 0)) (fun h' => ∃ p', Mod G h' a d mp p' ∧ MI d P p0 mp p'.2 ∧ p'.1 0 = (if 0 ≤ t ∧ t < ((fauA P).length : Int) then 0 else 1) ∧ Fr (FtM a d) h h')) := by
  refine j_body (by decide +kernel) ⟨rfl, rfl⟩ rfl ?_
  have hP := hM.1
  have hF : Fr (FtM a d) h h := Fr.rf
  obtain ⟨Fa, hpa, hFa⟩ := hM.2.1
  by_cases hc : 0 ≤ t ∧ t < ((fauA P).length : Int)
  · rw [if_pos hc, if_pos hc]
    refine j_aload_n 0 dX11_tickOfFault_0 rfl rfl ?_
    refine j_iload_n 1 dX11_tickOfFault_1 rfl rfl ?_
    refine J_callVW1 kX11_304 cvX11_hasFault hP.1 (c1_X11_hasFault hM hZ hI ht hc) rfl rfl rfl rfl rfl dX11_tickOfFault_2 rfl rfl (fun h hp => ?_)
    obtain ⟨p1, hM, hS1, hK1, h01, hF9⟩ := hp
    have hF := hF.tr hF9
    have hP := hM.1
    refine J_if_eq 15 dX11_tickOfFault_5 (by decide) (fun c5 => absurd c5 (by decide)) (fun c5 => ?_) 
    refine j_aload_n 0 dX11_tickOfFault_8 rfl rfl ?_
    refine j_get fX11_282 dX11_tickOfFault_9 hP.1 rfl ?_
    refine j_goto 16 dX11_tickOfFault_12 (by decide) ?_
    refine j_iret rfl dX11_tickOfFault_16 ?_
    exact ⟨oIe (hS1.at hc).2.1, p1, hM, hK1.mi hI, h01, hF⟩
  · rw [if_neg hc, if_neg hc]
    refine j_aload_n 0 dX11_tickOfFault_0 rfl rfl ?_
    refine j_iload_n 1 dX11_tickOfFault_1 rfl rfl ?_
    refine J_callVW1 kX11_304 cvX11_hasFault hP.1 (c0_X11_hasFault hM hZ hI ht hc) rfl rfl rfl rfl rfl dX11_tickOfFault_2 rfl rfl (fun h hp => ?_)
    obtain ⟨p1, hM, hK1, h01, hF9⟩ := hp
    have hF := hF.tr hF9
    have hP := hM.1
    refine J_if_eq 15 dX11_tickOfFault_5 (by decide) (fun c5 => ?_) (fun c5 => absurd c5 (by decide)) 
    refine J_iconst dX11_tickOfFault_15 ?_
    refine j_iret rfl dX11_tickOfFault_16 ?_
    exact ⟨rfl, p1, hM, hK1.mi hI, h01, hF⟩
set_option maxRecDepth 100000 in
theorem c_X11_partsOfFault {l : Launch} {G : jG} {h : jH} {a : Nat} {d : MD} {mp P : Nat → OS} {p p0 : OS} {Z : Nat → Nat} {t : Int} (hM : Mod G h a d mp p) (hZ : Mz a d Z) (hI : MI d P p0 mp p.2) (ht : rg t) : jC l G yX11_partsOfFault mX11_partsOfFault [.ref a, vI t] h (jW (oI (if 0 ≤ t ∧ t < ((fauA P).length : Int) then ((fauA P)[t.toNat]?.getD (0, 0, 0)).2.2 else 0)) (fun h' => ∃ p', Mod G h' a d mp p' ∧ MI d P p0 mp p'.2 ∧ p'.1 0 = (if 0 ≤ t ∧ t < ((fauA P).length : Int) then 0 else 1) ∧ Fr (FtM a d) h h')) := by
  refine j_body (by decide +kernel) ⟨rfl, rfl⟩ rfl ?_
  have hP := hM.1
  have hF : Fr (FtM a d) h h := Fr.rf
  obtain ⟨Fa, hpa, hFa⟩ := hM.2.1
  by_cases hc : 0 ≤ t ∧ t < ((fauA P).length : Int)
  · rw [if_pos hc, if_pos hc]
    refine j_aload_n 0 dX11_partsOfFault_0 rfl rfl ?_
    refine j_iload_n 1 dX11_partsOfFault_1 rfl rfl ?_
    refine J_callVW1 kX11_304 cvX11_hasFault hP.1 (c1_X11_hasFault hM hZ hI ht hc) rfl rfl rfl rfl rfl dX11_partsOfFault_2 rfl rfl (fun h hp => ?_)
    obtain ⟨p1, hM, hS1, hK1, h01, hF9⟩ := hp
    have hF := hF.tr hF9
    have hP := hM.1
    refine J_if_eq 15 dX11_partsOfFault_5 (by decide) (fun c5 => absurd c5 (by decide)) (fun c5 => ?_) 
    refine j_aload_n 0 dX11_partsOfFault_8 rfl rfl ?_
    refine j_get fX11_285 dX11_partsOfFault_9 hP.1 rfl ?_
    refine j_goto 16 dX11_partsOfFault_12 (by decide) ?_
    refine j_iret rfl dX11_partsOfFault_16 ?_
    exact ⟨oIe (hS1.at hc).2.2, p1, hM, hK1.mi hI, h01, hF⟩
  · rw [if_neg hc, if_neg hc]
    refine j_aload_n 0 dX11_partsOfFault_0 rfl rfl ?_
    refine j_iload_n 1 dX11_partsOfFault_1 rfl rfl ?_
    refine J_callVW1 kX11_304 cvX11_hasFault hP.1 (c0_X11_hasFault hM hZ hI ht hc) rfl rfl rfl rfl rfl dX11_partsOfFault_2 rfl rfl (fun h hp => ?_)
    obtain ⟨p1, hM, hK1, h01, hF9⟩ := hp
    have hF := hF.tr hF9
    have hP := hM.1
    refine J_if_eq 15 dX11_partsOfFault_5 (by decide) (fun c5 => ?_) (fun c5 => absurd c5 (by decide)) 
    refine J_iconst dX11_partsOfFault_15 ?_
    refine j_iret rfl dX11_partsOfFault_16 ?_
    exact ⟨rfl, p1, hM, hK1.mi hI, h01, hF⟩
