theorem cnt_evs {P : Nat → OS} (h : scoOK P) {k : Nat} (hk : k < 4) : (P k).1 7 ≤ evs P := by
  have h0 := (h 0 (by omega)).1.1
  have h1 := (h 1 (by omega)).1.1
  have h2 := (h 2 (by omega)).1.1
  have h3 := (h 3 (by omega)).1.1
  unfold evs
  rcases (by omega : k = 0 ∨ k = 1 ∨ k = 2 ∨ k = 3) with c | c | c | c <;> subst c <;> omega
theorem app7 (p : OS) (pl al le : Int) : (appP p pl al le).1 7 = p.1 7 + 1 := (congrFun (giv_f (oU (oU (oA (oA p 3 (upI (p.2 3) (p.1 7) (p.1 8))) 4 (upI (p.2 4) (p.1 7) le)) 7 (p.1 7 + 1)) 8 (p.1 8 + le)) (p.1 7) pl al).1 7)
set_option maxRecDepth 100000 in
theorem c_X9_addNote {l : Launch} {G : jG} {h : jH} {a : Nat} {d : DA} {s : DS} {Z : Nat → Nat} {k pl al v : Int} (hl0 : l.stackTraces = false) (hD : Desk G h a d s) (hI : DI s) (hZ : Dz a d Z) (hk : rg k) (hpl : rg pl) (hal : rg al) (hv : rg v) : jC l G yX9_addNote mX9_addNote [.ref a, vI k, vI pl, vI al, vI v] h (jW (if 0 ≤ k ∧ k < 4 then (if isPit pl al ∧ isVal v then (if evs s.1 < 512 ∧ (s.1 k.toNat).1 8 + v ≤ (s.2.1 0).1 4 then oI ((s.1 k.toNat).1 7) else .inr "java/lang/IllegalStateException") else .inr "java/lang/IllegalArgumentException") else .inr "java/lang/IndexOutOfBoundsException") (DN G a d h (if ((0 ≤ k ∧ k < 4) ∧ isPit pl al ∧ isVal v) ∧ evs s.1 < 512 ∧ (s.1 k.toNat).1 8 + v ≤ (s.2.1 0).1 4 then upN s.1 k.toNat (appP (s.1 k.toNat) pl al v) else s.1) ((s.2.1 0)))) := by
  refine j_body (by decide +kernel) ⟨rfl, rfl⟩ rfl ?_
  have hF : Fr (FtD a d) h h := Fr.rf
  refine j_aload_n 0 dX9_addNote_0 rfl rfl ?_
  refine j_iload_n 1 dX9_addNote_1 rfl rfl ?_
  by_cases t2 : 0 ≤ k ∧ k < 4
  · refine J_callV1 (show jLk _ _ yX9_partAt z9_partAt _ from kX9_75) cvX9_partAt hD.1 (c0_X9_partAt hD hI hZ t2) rfl rfl rfl rfl rfl dX9_addNote_2 rfl rfl ?_
    have hPk := hD.2.1.2 k.toNat (by omega)
    have hPt := hI.1 k.toNat (by omega)
    have hn7 : 0 ≤ (s.1 k.toNat).1 7 ∧ (s.1 k.toNat).1 7 ≤ 512 := hPt.1
    have hz8 := hPt.2.2.1.1
    refine j_astore (L' := [(5, _), (0, _), (1, _), (2, _), (3, _), (4, _)]) dX9_addNote_5 rfl rfl ?_
    refine j_iload_n 2 dX9_addNote_7 rfl rfl ?_
    refine j_iload_n 3 dX9_addNote_8 rfl rfl ?_
    by_cases t9 : isPit pl al
    · refine J_callS0 (show jLk _ _ yX9_checkPitch z9_checkPitch _ from kX9_79) csX9_checkPitch (c0_X9_checkPitch hpl hal t9) rfl rfl rfl rfl rfl dX9_addNote_9 rfl rfl ?_
      refine j_iload dX9_addNote_12 rfl ?_
      by_cases t14 : isVal v
      · refine J_callS0 (show jLk _ _ yX9_checkValue z9_checkValue _ from kX9_83) csX9_checkValue (c0_X9_checkValue hv t14) rfl rfl rfl rfl rfl dX9_addNote_14 rfl rfl ?_
        have hvr := isVal_rg t14
        refine j_aload_n 0 dX9_addNote_17 rfl rfl ?_
        refine j_aload dX9_addNote_18 rfl ?_
        refine j_iload dX9_addNote_20 rfl ?_
        by_cases t22 : evs s.1 < 512 ∧ (s.1 k.toNat).1 8 + v ≤ (s.2.1 0).1 4
        · refine J_callV0 (show jLk _ _ yX9_checkRoom z9_checkRoom _ from kX9_87) cvX9_checkRoom hD.1 (c0_X9_checkRoom hD hI hZ hPk hz8 (by omega) t22) rfl rfl rfl rfl rfl dX9_addNote_22 rfl rfl ?_
          refine j_aload_n 0 dX9_addNote_25 rfl rfl ?_
          refine J_callVW0 kX9_91 cvX9_forgetWhatFollows hD.1 (c_X9_forgetWhatFollows hD hI hZ) rfl rfl rfl rfl rfl dX9_addNote_26 rfl rfl (fun h hp => ?_)
          obtain ⟨hD, hF9⟩ := hp
          have hF := hF.tr hF9
          have hD : Desk G h a d (s.1, s.2.1, f0 s.2.2) := hD
          have hPk : AtX6 G h (d.pad k.toNat) (d.pq k.toNat) (s.1 k.toNat) := hD.2.1.2 k.toNat (by omega)
          refine j_aload dX9_addNote_29 rfl ?_
          refine j_iload_n 2 dX9_addNote_31 rfl rfl ?_
          refine j_iload_n 3 dX9_addNote_32 rfl rfl ?_
          refine j_iload dX9_addNote_33 rfl ?_
          refine J_callVW1 kX9_94 cvX6_append hPk.1 (c_X6_append hPk (by have := cnt_evs hI.1 (k := k.toNat) (by omega); have := t22.1; show 0 ≤ (s.1 k.toNat).1 7 ∧ (s.1 k.toNat).1 7 < 512; omega) hPt.2.2.1 (by have := t22.2; have := hI.2.2.1.1.2.1; show (s.1 k.toNat).1 8 + v ≤ 20000; omega) (by have := t9; unfold isPit at this; omega) (by have := t9; unfold isPit at this; omega) (by omega)) rfl rfl rfl rfl rfl dX9_addNote_35 rfl rfl (fun h hp => ?_)
          obtain ⟨hD, hF8⟩ := hD.wP hZ (by omega) hp.1 hp.2
          have hF := hF.tr hF8
          have hD : Desk G h a d (upN s.1 k.toNat (appP (s.1 k.toNat) pl al v), s.2.1, f0 s.2.2) := hD
          have te := t22.1
          have hev : evs (upN s.1 k.toNat (appP (s.1 k.toNat) pl al v)) ≤ 512 := by
            have e3 : (appP (s.1 k.toNat) pl al v).1 7 = (s.1 k.toNat).1 7 + 1 := app7 _ _ _ _
            have e2 := evs_up s.1 (k := k.toNat) (by omega) (appP (s.1 k.toNat) pl al v)
            have := hI.2.1
            omega
          refine j_iret rfl dX9_addNote_38 ?_
          exact ⟨by rw [if_pos t2, if_pos ⟨t9, t14⟩, if_pos t22], by rw [if_pos ⟨⟨t2, t9, t14⟩, t22⟩]; exact ⟨_, hD, hI.new (hI.1.up (hPt.app (by have := cnt_evs hI.1 (k := k.toNat) (by omega); have := t22.1; omega) (by have := t22.2; have := hI.2.2.1.1.2.1; omega) (by have := t9; unfold isPit at this; omega) (by have := t9; unfold isPit at this; omega) (fun z => by have := t9; unfold isPit at this; omega) t14)) hev, rfl, rfl, hF⟩⟩
        · refine J_callVX kX9_87 cvX9_checkRoom hD.1 (c_X9_checkRoom hl0 hD hI hZ hPk hz8 (by omega) t22) rfl rfl rfl rfl rfl dX9_addNote_22 rfl (by decide) (by decide) (fun h9 hp => ?_)
          exact ⟨by rw [if_pos t2, if_pos ⟨t9, t14⟩, if_neg t22], by rw [if_neg (fun z => t22 z.2)]; exact DN.eq hp hD hI⟩
      · refine J_callSX kX9_83 csX9_checkValue (c_X9_checkValue hl0 hv t14) rfl rfl rfl rfl rfl dX9_addNote_14 rfl (by decide) (by decide) (fun h9 hp => ?_)
        exact ⟨by rw [if_pos t2, if_neg (fun z => t14 z.2)], by rw [if_neg (fun z => t14 z.1.2.2)]; exact DN.eq hp hD hI⟩
    · refine J_callSX kX9_79 csX9_checkPitch (c_X9_checkPitch hl0 hpl hal t9) rfl rfl rfl rfl rfl dX9_addNote_9 rfl (by decide) (by decide) (fun h9 hp => ?_)
      exact ⟨by rw [if_pos t2, if_neg (fun z => t9 z.1)], by rw [if_neg (fun z => t9 z.1.2.1)]; exact DN.eq hp hD hI⟩
  · refine J_callVX kX9_75 cvX9_partAt hD.1 (c_X9_partAt hl0 hD hI hZ hk t2) rfl rfl rfl rfl rfl dX9_addNote_2 rfl (by decide) (by decide) (fun h9 hp => ?_)
    exact ⟨by rw [if_neg t2], by rw [if_neg (fun z => t2 z.1.1)]; exact DN.eq hp hD hI⟩
set_option maxRecDepth 100000 in
theorem c_X9_addRest {l : Launch} {G : jG} {h : jH} {a : Nat} {d : DA} {s : DS} {Z : Nat → Nat} {k v : Int} (hl0 : l.stackTraces = false) (hD : Desk G h a d s) (hI : DI s) (hZ : Dz a d Z) (hk : rg k) (hv : rg v) : jC l G yX9_addRest mX9_addRest [.ref a, vI k, vI v] h (jW (if 0 ≤ k ∧ k < 4 then (if isVal v then (if evs s.1 < 512 ∧ (s.1 k.toNat).1 8 + v ≤ (s.2.1 0).1 4 then oI ((s.1 k.toNat).1 7) else .inr "java/lang/IllegalStateException") else .inr "java/lang/IllegalArgumentException") else .inr "java/lang/IndexOutOfBoundsException") (DN G a d h (if ((0 ≤ k ∧ k < 4) ∧ isVal v) ∧ evs s.1 < 512 ∧ (s.1 k.toNat).1 8 + v ≤ (s.2.1 0).1 4 then upN s.1 k.toNat (appP (s.1 k.toNat) 0 0 v) else s.1) ((s.2.1 0)))) := by
  refine j_body (by decide +kernel) ⟨rfl, rfl⟩ rfl ?_
  have hF : Fr (FtD a d) h h := Fr.rf
  refine j_aload_n 0 dX9_addRest_0 rfl rfl ?_
  refine j_iload_n 1 dX9_addRest_1 rfl rfl ?_
  by_cases t2 : 0 ≤ k ∧ k < 4
  · refine J_callV1 (show jLk _ _ yX9_partAt z9_partAt _ from kX9_75) cvX9_partAt hD.1 (c0_X9_partAt hD hI hZ t2) rfl rfl rfl rfl rfl dX9_addRest_2 rfl rfl ?_
    have hPk := hD.2.1.2 k.toNat (by omega)
    have hPt := hI.1 k.toNat (by omega)
    have hn7 : 0 ≤ (s.1 k.toNat).1 7 ∧ (s.1 k.toNat).1 7 ≤ 512 := hPt.1
    have hz8 := hPt.2.2.1.1
    refine j_astore_n 3 (L' := [(3, _), (0, _), (1, _), (2, _)]) dX9_addRest_5 rfl rfl rfl ?_
    refine j_iload_n 2 dX9_addRest_6 rfl rfl ?_
    by_cases t7 : isVal v
    · refine J_callS0 (show jLk _ _ yX9_checkValue z9_checkValue _ from kX9_83) csX9_checkValue (c0_X9_checkValue hv t7) rfl rfl rfl rfl rfl dX9_addRest_7 rfl rfl ?_
      have hvr := isVal_rg t7
      refine j_aload_n 0 dX9_addRest_10 rfl rfl ?_
      refine j_aload_n 3 dX9_addRest_11 rfl rfl ?_
      refine j_iload_n 2 dX9_addRest_12 rfl rfl ?_
      by_cases t13 : evs s.1 < 512 ∧ (s.1 k.toNat).1 8 + v ≤ (s.2.1 0).1 4
      · refine J_callV0 (show jLk _ _ yX9_checkRoom z9_checkRoom _ from kX9_87) cvX9_checkRoom hD.1 (c0_X9_checkRoom hD hI hZ hPk hz8 (by omega) t13) rfl rfl rfl rfl rfl dX9_addRest_13 rfl rfl ?_
        refine j_aload_n 0 dX9_addRest_16 rfl rfl ?_
        refine J_callVW0 kX9_91 cvX9_forgetWhatFollows hD.1 (c_X9_forgetWhatFollows hD hI hZ) rfl rfl rfl rfl rfl dX9_addRest_17 rfl rfl (fun h hp => ?_)
        obtain ⟨hD, hF9⟩ := hp
        have hF := hF.tr hF9
        have hD : Desk G h a d (s.1, s.2.1, f0 s.2.2) := hD
        have hPk : AtX6 G h (d.pad k.toNat) (d.pq k.toNat) (s.1 k.toNat) := hD.2.1.2 k.toNat (by omega)
        refine j_aload_n 3 dX9_addRest_20 rfl rfl ?_
        refine J_iconst dX9_addRest_21 ?_
        refine J_iconst dX9_addRest_22 ?_
        refine j_iload_n 2 dX9_addRest_23 rfl rfl ?_
        refine J_callVW1 kX9_94 cvX6_append hPk.1 (c_X6_append hPk (by have := cnt_evs hI.1 (k := k.toNat) (by omega); have := t13.1; show 0 ≤ (s.1 k.toNat).1 7 ∧ (s.1 k.toNat).1 7 < 512; omega) hPt.2.2.1 (by have := t13.2; have := hI.2.2.1.1.2.1; show (s.1 k.toNat).1 8 + v ≤ 20000; omega) (by omega) (by omega) (by omega)) rfl rfl rfl rfl rfl dX9_addRest_24 rfl rfl (fun h hp => ?_)
        obtain ⟨hD, hF8⟩ := hD.wP hZ (by omega) hp.1 hp.2
        have hF := hF.tr hF8
        have hD : Desk G h a d (upN s.1 k.toNat (appP (s.1 k.toNat) 0 0 v), s.2.1, f0 s.2.2) := hD
        have te := t13.1
        have hev : evs (upN s.1 k.toNat (appP (s.1 k.toNat) 0 0 v)) ≤ 512 := by
          have e3 : (appP (s.1 k.toNat) 0 0 v).1 7 = (s.1 k.toNat).1 7 + 1 := app7 _ _ _ _
          have e2 := evs_up s.1 (k := k.toNat) (by omega) (appP (s.1 k.toNat) 0 0 v)
          have := hI.2.1
          omega
        refine j_iret rfl dX9_addRest_27 ?_
        exact ⟨by rw [if_pos t2, if_pos t7, if_pos t13], by rw [if_pos ⟨⟨t2, t7⟩, t13⟩]; exact ⟨_, hD, hI.new (hI.1.up (hPt.app (by have := cnt_evs hI.1 (k := k.toNat) (by omega); have := t13.1; omega) (by have := t13.2; have := hI.2.2.1.1.2.1; omega) (by omega) (by omega) (fun z => rfl) t7)) hev, rfl, rfl, hF⟩⟩
      · refine J_callVX kX9_87 cvX9_checkRoom hD.1 (c_X9_checkRoom hl0 hD hI hZ hPk hz8 (by omega) t13) rfl rfl rfl rfl rfl dX9_addRest_13 rfl (by decide) (by decide) (fun h9 hp => ?_)
        exact ⟨by rw [if_pos t2, if_pos t7, if_neg t13], by rw [if_neg (fun z => t13 z.2)]; exact DN.eq hp hD hI⟩
    · refine J_callSX kX9_83 csX9_checkValue (c_X9_checkValue hl0 hv t7) rfl rfl rfl rfl rfl dX9_addRest_7 rfl (by decide) (by decide) (fun h9 hp => ?_)
      exact ⟨by rw [if_pos t2, if_neg t7], by rw [if_neg (fun z => t7 z.1.2)]; exact DN.eq hp hD hI⟩
  · refine J_callVX kX9_75 cvX9_partAt hD.1 (c_X9_partAt hl0 hD hI hZ hk t2) rfl rfl rfl rfl rfl dX9_addRest_2 rfl (by decide) (by decide) (fun h9 hp => ?_)
    exact ⟨by rw [if_neg t2], by rw [if_neg (fun z => t2 z.1.1)]; exact DN.eq hp hD hI⟩
set_option maxRecDepth 100000 in
theorem c_X9_takeLast {l : Launch} {G : jG} {h : jH} {a : Nat} {d : DA} {s : DS} {Z : Nat → Nat} {k : Int} (hl0 : l.stackTraces = false) (hD : Desk G h a d s) (hI : DI s) (hZ : Dz a d Z) (hk : rg k) : jC l G yX9_takeLast mX9_takeLast [.ref a, vI k] h (jW (if 0 ≤ k ∧ k < 4 then (if 0 < (s.1 k.toNat).1 7 then oI ((s.1 k.toNat).2 4 ((s.1 k.toNat).1 7 - 1)) else .inr "java/lang/IllegalStateException") else .inr "java/lang/IndexOutOfBoundsException") (DN G a d h (if (0 ≤ k ∧ k < 4) ∧ 0 < (s.1 k.toNat).1 7 then upN s.1 k.toNat (remP (s.1 k.toNat)) else s.1) ((s.2.1 0)))) := by
  refine j_body (by decide +kernel) ⟨rfl, rfl⟩ rfl ?_
  have hF : Fr (FtD a d) h h := Fr.rf
  refine j_aload_n 0 dX9_takeLast_0 rfl rfl ?_
  refine j_iload_n 1 dX9_takeLast_1 rfl rfl ?_
  by_cases t2 : 0 ≤ k ∧ k < 4
  · refine J_callV1 (show jLk _ _ yX9_partAt z9_partAt _ from kX9_75) cvX9_partAt hD.1 (c0_X9_partAt hD hI hZ t2) rfl rfl rfl rfl rfl dX9_takeLast_2 rfl rfl ?_
    have hPk := hD.2.1.2 k.toNat (by omega)
    have hPt := hI.1 k.toNat (by omega)
    have hn7 : 0 ≤ (s.1 k.toNat).1 7 ∧ (s.1 k.toNat).1 7 ≤ 512 := hPt.1
    have hz8 := hPt.2.2.1.1
    refine j_astore_n 2 (L' := [(2, _), (0, _), (1, _)]) dX9_takeLast_5 rfl rfl rfl ?_
    refine j_aload_n 2 dX9_takeLast_6 rfl rfl ?_
    refine J_callV1 kX9_98 cvX6_size hPk.1 (c_X6_size hPk) rfl rfl rfl rfl rfl dX9_takeLast_7 rfl rfl ?_
    refine J_if_ne 23 dX9_takeLast_10 (by decide) (fun c10 => ?_) (fun c10 => ?_) 
    · refine j_aload_n 0 dX9_takeLast_23 rfl rfl ?_
      refine J_callVW0 kX9_91 cvX9_forgetWhatFollows hD.1 (c_X9_forgetWhatFollows hD hI hZ) rfl rfl rfl rfl rfl dX9_takeLast_24 rfl rfl (fun h hp => ?_)
      obtain ⟨hD, hF9⟩ := hp
      have hF := hF.tr hF9
      have hD : Desk G h a d (s.1, s.2.1, f0 s.2.2) := hD
      have hPk : AtX6 G h (d.pad k.toNat) (d.pq k.toNat) (s.1 k.toNat) := hD.2.1.2 k.toNat (by omega)
      refine j_aload_n 2 dX9_takeLast_27 rfl rfl ?_
      refine J_callVW1 kX9_109 cvX6_removeLast hPk.1 (c_X6_removeLast hPk hn7) rfl rfl rfl rfl rfl dX9_takeLast_28 rfl rfl (fun h hp => ?_)
      obtain ⟨hD, hF8⟩ := hD.wP hZ (by omega) hp.1 hp.2
      have hF := hF.tr hF8
      have hD : Desk G h a d (upN s.1 k.toNat (remP (s.1 k.toNat)), s.2.1, f0 s.2.2) := hD
      have hev : evs (upN s.1 k.toNat (remP (s.1 k.toNat))) ≤ 512 := by
        have e3 : (remP (s.1 k.toNat)).1 7 = (s.1 k.toNat).1 7 - 1 := by unfold remP; rw [if_pos (by omega)]; rfl
        have e2 := evs_up s.1 (k := k.toNat) (by omega) (remP (s.1 k.toNat))
        have := hI.2.1
        omega
      refine j_iret rfl dX9_takeLast_31 ?_
      exact ⟨by rw [if_pos t2, if_pos (show 0 < (s.1 k.toNat).1 7 by omega), if_pos (show 0 < (s.1 k.toNat).1 7 by omega)], by rw [if_pos ⟨t2, show 0 < (s.1 k.toNat).1 7 by omega⟩]; exact ⟨_, hD, hI.new (hI.1.up hPt.rem) hev, rfl, rfl, hF⟩⟩
    · refine j_throwS (k := 5) hl0 rfl nX9_102 rfl rfl dX9_takeLast_13 dX9_takeLast_16 dX9_takeLast_17 dX9_takeLast_19 dX9_takeLast_22 rfl rfl (by decide) (by decide) ?_
      exact ⟨by rw [if_pos t2, if_neg (show ¬ 0 < (s.1 k.toNat).1 7 by omega)], by rw [if_neg (fun z => absurd z.2 (by omega))]; exact DN.same hD hI⟩
  · refine J_callVX kX9_75 cvX9_partAt hD.1 (c_X9_partAt hl0 hD hI hZ hk t2) rfl rfl rfl rfl rfl dX9_takeLast_2 rfl (by decide) (by decide) (fun h9 hp => ?_)
    exact ⟨by rw [if_neg t2], by rw [if_neg (fun z => t2 z.1)]; exact DN.eq hp hD hI⟩
set_option maxRecDepth 100000 in
theorem c_X9_setPitch {l : Launch} {G : jG} {h : jH} {a : Nat} {d : DA} {s : DS} {Z : Nat → Nat} {k e pl al : Int} (hl0 : l.stackTraces = false) (hD : Desk G h a d s) (hI : DI s) (hZ : Dz a d Z) (hk : rg k) (he : rg e) (hpl : rg pl) (hal : rg al) : jC l G yX9_setPitch mX9_setPitch [.ref a, vI k, vI e, vI pl, vI al] h (jW (if (0 ≤ k ∧ k < 4) ∧ inP (s.1 k.toNat) e then (if isPit pl al then (if inP (s.1 k.toNat) e ∧ (s.1 k.toNat).2 0 e ≠ 0 then oI ((s.1 k.toNat).2 2 e) else .inr "java/lang/IllegalStateException") else .inr "java/lang/IllegalArgumentException") else .inr "java/lang/IndexOutOfBoundsException") (DN G a d h (if (((0 ≤ k ∧ k < 4) ∧ inP (s.1 k.toNat) e) ∧ isPit pl al) ∧ inP (s.1 k.toNat) e ∧ (s.1 k.toNat).2 0 e ≠ 0 then upN s.1 k.toNat (givP (s.1 k.toNat) e pl al) else s.1) ((s.2.1 0)))) := by
  refine j_body (by decide +kernel) ⟨rfl, rfl⟩ rfl ?_
  have hF : Fr (FtD a d) h h := Fr.rf
  refine j_aload_n 0 dX9_setPitch_0 rfl rfl ?_
  refine j_iload_n 1 dX9_setPitch_1 rfl rfl ?_
  refine j_iload_n 2 dX9_setPitch_2 rfl rfl ?_
  by_cases t3 : (0 ≤ k ∧ k < 4) ∧ inP (s.1 k.toNat) e
  · refine J_callV1 (show jLk _ _ yX9_partWith z9_partWith _ from kX9_112) cvX9_partWith hD.1 (c0_X9_partWith hD hI hZ he t3) rfl rfl rfl rfl rfl dX9_setPitch_3 rfl rfl ?_
    have tk := t3.1
    have hPk := hD.2.1.2 k.toNat (by omega)
    have hPt := hI.1 k.toNat (by omega)
    have hn7 : 0 ≤ (s.1 k.toNat).1 7 ∧ (s.1 k.toNat).1 7 ≤ 512 := hPt.1
    refine j_astore (L' := [(5, _), (0, _), (1, _), (2, _), (3, _), (4, _)]) dX9_setPitch_6 rfl rfl ?_
    refine j_iload_n 3 dX9_setPitch_8 rfl rfl ?_
    refine j_iload dX9_setPitch_9 rfl ?_
    by_cases t11 : isPit pl al
    · refine J_callS0 (show jLk _ _ yX9_checkPitch z9_checkPitch _ from kX9_79) csX9_checkPitch (c0_X9_checkPitch hpl hal t11) rfl rfl rfl rfl rfl dX9_setPitch_11 rfl rfl ?_
      have tp := t11
      unfold isPit at tp
      refine j_aload dX9_setPitch_14 rfl ?_
      refine j_iload_n 2 dX9_setPitch_16 rfl rfl ?_
      by_cases t17 : inP (s.1 k.toNat) e ∧ (s.1 k.toNat).2 0 e ≠ 0
      · refine J_callS0 (show jLk _ _ yX9_checkNote z9_checkNote _ from kX9_116) csX9_checkNote (c0_X9_checkNote hPk hPt.1 hPt.2.1 he t17) rfl rfl rfl rfl rfl dX9_setPitch_17 rfl rfl ?_
        refine j_aload dX9_setPitch_20 rfl ?_
        refine j_iload_n 2 dX9_setPitch_22 rfl rfl ?_
        refine J_callV1 kX9_119 cvX6_heightAt hPk.1 (c_X6_heightAt hPk hPt.1 he) rfl rfl rfl rfl rfl dX9_setPitch_23 rfl rfl ?_
        refine J_top ((s.1 k.toNat).2 2 e) ?_ (by exact if_pos t17.1)
        refine j_istore (L' := [(6, _), (5, _), (0, _), (1, _), (2, _), (3, _), (4, _)]) dX9_setPitch_26 rfl rfl ?_
        refine j_aload_n 0 dX9_setPitch_28 rfl rfl ?_
        refine J_callVW0 kX9_91 cvX9_forgetWhatFollows hD.1 (c_X9_forgetWhatFollows hD hI hZ) rfl rfl rfl rfl rfl dX9_setPitch_29 rfl rfl (fun h hp => ?_)
        obtain ⟨hD, hF9⟩ := hp
        have hF := hF.tr hF9
        have hD : Desk G h a d (s.1, s.2.1, f0 s.2.2) := hD
        have hPk : AtX6 G h (d.pad k.toNat) (d.pq k.toNat) (s.1 k.toNat) := hD.2.1.2 k.toNat (by omega)
        refine j_aload dX9_setPitch_32 rfl ?_
        refine j_iload_n 2 dX9_setPitch_34 rfl rfl ?_
        refine j_iload_n 3 dX9_setPitch_35 rfl rfl ?_
        refine j_iload dX9_setPitch_36 rfl ?_
        refine J_callVW0 kX9_123 cvX6_givePitch hPk.1 (c_X6_givePitch hPk hPt.1 hPt.2.2.1 t17.1 (by omega) (by omega)) rfl rfl rfl rfl rfl dX9_setPitch_38 rfl rfl (fun h hp => ?_)
        obtain ⟨hD, hF8⟩ := hD.wP hZ (by omega) hp.1 hp.2
        have hF := hF.tr hF8
        have hD : Desk G h a d (upN s.1 k.toNat (givP (s.1 k.toNat) e pl al), s.2.1, f0 s.2.2) := hD
        have hev : evs (upN s.1 k.toNat (givP (s.1 k.toNat) e pl al)) ≤ 512 := by
          have e3 : (givP (s.1 k.toNat) e pl al).1 7 = (s.1 k.toNat).1 7 := by rw [(giv_f _ _ _ _).1]
          have e2 := evs_up s.1 (k := k.toNat) (by omega) (givP (s.1 k.toNat) e pl al)
          have := hI.2.1
          omega
        refine j_iload dX9_setPitch_41 rfl ?_
        refine j_iret rfl dX9_setPitch_43 ?_
        exact ⟨by rw [if_pos t3, if_pos t11, if_pos t17], by rw [if_pos ⟨⟨t3, t11⟩, t17⟩]; exact ⟨_, hD, hI.new (hI.1.up (hPt.giv (by omega) (by omega) (fun z => by omega))) hev, rfl, rfl, hF⟩⟩
      · refine J_callSX kX9_116 csX9_checkNote (c_X9_checkNote hl0 hPk hPt.1 hPt.2.1 he t17) rfl rfl rfl rfl rfl dX9_setPitch_17 rfl (by decide) (by decide) (fun h9 hp => ?_)
        exact ⟨by rw [if_pos t3, if_pos t11, if_neg t17], by rw [if_neg (fun z => t17 z.2)]; exact DN.eq hp hD hI⟩
    · refine J_callSX kX9_79 csX9_checkPitch (c_X9_checkPitch hl0 hpl hal t11) rfl rfl rfl rfl rfl dX9_setPitch_11 rfl (by decide) (by decide) (fun h9 hp => ?_)
      exact ⟨by rw [if_pos t3, if_neg t11], by rw [if_neg (fun z => t11 z.1.2)]; exact DN.eq hp hD hI⟩
  · refine J_callVX kX9_112 cvX9_partWith hD.1 (c_X9_partWith hl0 hD hI hZ hk he t3) rfl rfl rfl rfl rfl dX9_setPitch_3 rfl (by decide) (by decide) (fun h9 hp => ?_)
    exact ⟨by rw [if_neg t3], by rw [if_neg (fun z => t3 z.1.1)]; exact DN.eq hp hD hI⟩
set_option maxRecDepth 100000 in
theorem c_X9_setMetre {l : Launch} {G : jG} {h : jH} {a : Nat} {d : DA} {s : DS} {Z : Nat → Nat} {b nb nu : Int} (hl0 : l.stackTraces = false) (hD : Desk G h a d s) (hI : DI s) (hZ : Dz a d Z) (hb : rg b) (hnb : rg nb) (hnu : rg nu) : jC l G yX9_setMetre mX9_setMetre [.ref a, vI b, vI nb, vI nu] h (jW (if isBar b then (if (1 ≤ nb ∧ nb ≤ 12) ∧ (nu = 2 ∨ nu = 4 ∨ nu = 8) then oI ((nb * 64).tdiv nu) else .inr "java/lang/IllegalArgumentException") else .inr "java/lang/IndexOutOfBoundsException") (DN G a d h (s.1) (if isBar b ∧ (1 ≤ nb ∧ nb ≤ 12) ∧ (nu = 2 ∨ nu = 4 ∨ nu = 8) then metP (s.2.1 0) b nb nu else (s.2.1 0)))) := by
  refine j_body (by decide +kernel) ⟨rfl, rfl⟩ rfl ?_
  have hF : Fr (FtD a d) h h := Fr.rf
  refine j_iload_n 1 dX9_setMetre_0 rfl rfl ?_
  by_cases t1 : isBar b
  · refine J_callS0 (show jLk _ _ yX9_checkBar z9_checkBar _ from kX9_127) csX9_checkBar (c0_X9_checkBar hb t1) rfl rfl rfl rfl rfl dX9_setMetre_1 rfl rfl ?_
    refine j_iload_n 2 dX9_setMetre_4 rfl rfl ?_
    refine J_iconst dX9_setMetre_5 ?_
    refine J_icmp_lt 31 dX9_setMetre_6 (by decide) (fun c6 => ?_) (fun c6 => ?_) 
    · refine j_throwS (k := 8) hl0 rfl nX9_130 rfl rfl dX9_setMetre_31 dX9_setMetre_34 dX9_setMetre_35 dX9_setMetre_37 dX9_setMetre_40 rfl rfl (by decide) (by decide) ?_
      exact ⟨by rw [if_pos t1, if_neg (show ¬ ((1 ≤ nb ∧ nb ≤ 12) ∧ (nu = 2 ∨ nu = 4 ∨ nu = 8)) by omega)], by rw [if_neg (fun z => absurd z.2 (show ¬ ((1 ≤ nb ∧ nb ≤ 12) ∧ (nu = 2 ∨ nu = 4 ∨ nu = 8)) by omega))]; exact DN.same hD hI⟩
    · refine j_iload_n 2 dX9_setMetre_9 rfl rfl ?_
      refine J_bipush dX9_setMetre_10 (by decide) ?_
      refine J_icmp_gt 31 dX9_setMetre_12 (by decide) (fun c12 => ?_) (fun c12 => ?_) 
      · refine j_throwS (k := 8) hl0 rfl nX9_130 rfl rfl dX9_setMetre_31 dX9_setMetre_34 dX9_setMetre_35 dX9_setMetre_37 dX9_setMetre_40 rfl rfl (by decide) (by decide) ?_
        exact ⟨by rw [if_pos t1, if_neg (show ¬ ((1 ≤ nb ∧ nb ≤ 12) ∧ (nu = 2 ∨ nu = 4 ∨ nu = 8)) by omega)], by rw [if_neg (fun z => absurd z.2 (show ¬ ((1 ≤ nb ∧ nb ≤ 12) ∧ (nu = 2 ∨ nu = 4 ∨ nu = 8)) by omega))]; exact DN.same hD hI⟩
      · refine j_iload_n 3 dX9_setMetre_15 rfl rfl ?_
        refine J_iconst dX9_setMetre_16 ?_
        refine J_icmp_eq 41 dX9_setMetre_17 (by decide) (fun c17 => ?_) (fun c17 => ?_) 
        · refine j_aload_n 0 dX9_setMetre_41 rfl rfl ?_
          refine J_callVW0 kX9_91 cvX9_forgetWhatFollows hD.1 (c_X9_forgetWhatFollows hD hI hZ) rfl rfl rfl rfl rfl dX9_setMetre_42 rfl rfl (fun h hp => ?_)
          obtain ⟨hD, hF9⟩ := hp
          have hF := hF.tr hF9
          have hD : Desk G h a d (s.1, s.2.1, f0 s.2.2) := hD
          refine j_aload_n 0 dX9_setMetre_45 rfl rfl ?_
          refine j_get fX9_19 dX9_setMetre_46 hD.1 rfl ?_
          refine j_iload_n 1 dX9_setMetre_49 rfl rfl ?_
          refine j_iload_n 2 dX9_setMetre_50 rfl rfl ?_
          refine j_iload_n 3 dX9_setMetre_51 rfl rfl ?_
          refine J_callVW0 kX9_135 cvX0_changeMetre (hD.2.2.1).1 (c_X0_changeMetre (hD.2.2.1) t1 (by omega) (by omega)) rfl rfl rfl rfl rfl dX9_setMetre_52 rfl rfl (fun h hp => ?_)
          obtain ⟨hD, hF8⟩ := hD.w0 hZ hp.1 hp.2
          have hF := hF.tr hF8
          refine j_aload_n 0 dX9_setMetre_55 rfl rfl ?_
          refine j_get fX9_19 dX9_setMetre_56 hD.1 rfl ?_
          refine j_iload_n 1 dX9_setMetre_59 rfl rfl ?_
          refine J_callV1 kX9_138 cvX0_lengthAt (hD.2.2.1).1 (c_X0_lengthAt (hD.2.2.1) hb) rfl rfl rfl rfl rfl dX9_setMetre_60 rfl rfl ?_
          refine J_top ((nb * 64).tdiv nu) ?_ (by rw [if_pos t1]; show rng ((s.2.1 0).2 2) b 24 ((nb * 64).tdiv nu) b = _; unfold rng; rw [if_pos ⟨Int.le_refl _, t1.2⟩])
          refine j_iret rfl dX9_setMetre_63 ?_
          exact ⟨by rw [if_pos t1, if_pos (show (1 ≤ nb ∧ nb ≤ 12) ∧ (nu = 2 ∨ nu = 4 ∨ nu = 8) by omega)], by rw [if_pos ⟨t1, show (1 ≤ nb ∧ nb ≤ 12) ∧ (nu = 2 ∨ nu = 4 ∨ nu = 8) by omega⟩]; exact ⟨_, hD, hI.cal (hI.2.2.1.met (by omega) (by omega)), rfl, (by show upN s.2.1 0 (metP (s.2.1 0) b nb nu) 0 = _; exact upN_s _ _ _), hF⟩⟩
        · refine j_iload_n 3 dX9_setMetre_20 rfl rfl ?_
          refine J_iconst dX9_setMetre_21 ?_
          refine J_icmp_eq 41 dX9_setMetre_22 (by decide) (fun c22 => ?_) (fun c22 => ?_) 
          · refine j_aload_n 0 dX9_setMetre_41 rfl rfl ?_
            refine J_callVW0 kX9_91 cvX9_forgetWhatFollows hD.1 (c_X9_forgetWhatFollows hD hI hZ) rfl rfl rfl rfl rfl dX9_setMetre_42 rfl rfl (fun h hp => ?_)
            obtain ⟨hD, hF9⟩ := hp
            have hF := hF.tr hF9
            have hD : Desk G h a d (s.1, s.2.1, f0 s.2.2) := hD
            refine j_aload_n 0 dX9_setMetre_45 rfl rfl ?_
            refine j_get fX9_19 dX9_setMetre_46 hD.1 rfl ?_
            refine j_iload_n 1 dX9_setMetre_49 rfl rfl ?_
            refine j_iload_n 2 dX9_setMetre_50 rfl rfl ?_
            refine j_iload_n 3 dX9_setMetre_51 rfl rfl ?_
            refine J_callVW0 kX9_135 cvX0_changeMetre (hD.2.2.1).1 (c_X0_changeMetre (hD.2.2.1) t1 (by omega) (by omega)) rfl rfl rfl rfl rfl dX9_setMetre_52 rfl rfl (fun h hp => ?_)
            obtain ⟨hD, hF8⟩ := hD.w0 hZ hp.1 hp.2
            have hF := hF.tr hF8
            refine j_aload_n 0 dX9_setMetre_55 rfl rfl ?_
            refine j_get fX9_19 dX9_setMetre_56 hD.1 rfl ?_
            refine j_iload_n 1 dX9_setMetre_59 rfl rfl ?_
            refine J_callV1 kX9_138 cvX0_lengthAt (hD.2.2.1).1 (c_X0_lengthAt (hD.2.2.1) hb) rfl rfl rfl rfl rfl dX9_setMetre_60 rfl rfl ?_
            refine J_top ((nb * 64).tdiv nu) ?_ (by rw [if_pos t1]; show rng ((s.2.1 0).2 2) b 24 ((nb * 64).tdiv nu) b = _; unfold rng; rw [if_pos ⟨Int.le_refl _, t1.2⟩])
            refine j_iret rfl dX9_setMetre_63 ?_
            exact ⟨by rw [if_pos t1, if_pos (show (1 ≤ nb ∧ nb ≤ 12) ∧ (nu = 2 ∨ nu = 4 ∨ nu = 8) by omega)], by rw [if_pos ⟨t1, show (1 ≤ nb ∧ nb ≤ 12) ∧ (nu = 2 ∨ nu = 4 ∨ nu = 8) by omega⟩]; exact ⟨_, hD, hI.cal (hI.2.2.1.met (by omega) (by omega)), rfl, (by show upN s.2.1 0 (metP (s.2.1 0) b nb nu) 0 = _; exact upN_s _ _ _), hF⟩⟩
          · refine j_iload_n 3 dX9_setMetre_25 rfl rfl ?_
            refine J_bipush dX9_setMetre_26 (by decide) ?_
            refine J_icmp_eq 41 dX9_setMetre_28 (by decide) (fun c28 => ?_) (fun c28 => ?_) 
            · refine j_aload_n 0 dX9_setMetre_41 rfl rfl ?_
              refine J_callVW0 kX9_91 cvX9_forgetWhatFollows hD.1 (c_X9_forgetWhatFollows hD hI hZ) rfl rfl rfl rfl rfl dX9_setMetre_42 rfl rfl (fun h hp => ?_)
              obtain ⟨hD, hF9⟩ := hp
              have hF := hF.tr hF9
              have hD : Desk G h a d (s.1, s.2.1, f0 s.2.2) := hD
              refine j_aload_n 0 dX9_setMetre_45 rfl rfl ?_
              refine j_get fX9_19 dX9_setMetre_46 hD.1 rfl ?_
              refine j_iload_n 1 dX9_setMetre_49 rfl rfl ?_
              refine j_iload_n 2 dX9_setMetre_50 rfl rfl ?_
              refine j_iload_n 3 dX9_setMetre_51 rfl rfl ?_
              refine J_callVW0 kX9_135 cvX0_changeMetre (hD.2.2.1).1 (c_X0_changeMetre (hD.2.2.1) t1 (by omega) (by omega)) rfl rfl rfl rfl rfl dX9_setMetre_52 rfl rfl (fun h hp => ?_)
              obtain ⟨hD, hF8⟩ := hD.w0 hZ hp.1 hp.2
              have hF := hF.tr hF8
              refine j_aload_n 0 dX9_setMetre_55 rfl rfl ?_
              refine j_get fX9_19 dX9_setMetre_56 hD.1 rfl ?_
              refine j_iload_n 1 dX9_setMetre_59 rfl rfl ?_
              refine J_callV1 kX9_138 cvX0_lengthAt (hD.2.2.1).1 (c_X0_lengthAt (hD.2.2.1) hb) rfl rfl rfl rfl rfl dX9_setMetre_60 rfl rfl ?_
              refine J_top ((nb * 64).tdiv nu) ?_ (by rw [if_pos t1]; show rng ((s.2.1 0).2 2) b 24 ((nb * 64).tdiv nu) b = _; unfold rng; rw [if_pos ⟨Int.le_refl _, t1.2⟩])
              refine j_iret rfl dX9_setMetre_63 ?_
              exact ⟨by rw [if_pos t1, if_pos (show (1 ≤ nb ∧ nb ≤ 12) ∧ (nu = 2 ∨ nu = 4 ∨ nu = 8) by omega)], by rw [if_pos ⟨t1, show (1 ≤ nb ∧ nb ≤ 12) ∧ (nu = 2 ∨ nu = 4 ∨ nu = 8) by omega⟩]; exact ⟨_, hD, hI.cal (hI.2.2.1.met (by omega) (by omega)), rfl, (by show upN s.2.1 0 (metP (s.2.1 0) b nb nu) 0 = _; exact upN_s _ _ _), hF⟩⟩
            · refine j_throwS (k := 8) hl0 rfl nX9_130 rfl rfl dX9_setMetre_31 dX9_setMetre_34 dX9_setMetre_35 dX9_setMetre_37 dX9_setMetre_40 rfl rfl (by decide) (by decide) ?_
              exact ⟨by rw [if_pos t1, if_neg (show ¬ ((1 ≤ nb ∧ nb ≤ 12) ∧ (nu = 2 ∨ nu = 4 ∨ nu = 8)) by omega)], by rw [if_neg (fun z => absurd z.2 (show ¬ ((1 ≤ nb ∧ nb ≤ 12) ∧ (nu = 2 ∨ nu = 4 ∨ nu = 8)) by omega))]; exact DN.same hD hI⟩
  · refine J_callSX kX9_127 csX9_checkBar (c_X9_checkBar hl0 hb t1) rfl rfl rfl rfl rfl dX9_setMetre_1 rfl (by decide) (by decide) (fun h9 hp => ?_)
    exact ⟨by rw [if_neg t1], by rw [if_neg (fun z => t1 z.1)]; exact DN.eq hp hD hI⟩
set_option maxRecDepth 100000 in
theorem c_X9_setKey {l : Launch} {G : jG} {h : jH} {a : Nat} {d : DA} {s : DS} {Z : Nat → Nat} {b k : Int} (hl0 : l.stackTraces = false) (hD : Desk G h a d s) (hI : DI s) (hZ : Dz a d Z) (hb : rg b) (hk : rg k) : jC l G yX9_setKey mX9_setKey [.ref a, vI b, vI k] h (jW (if isBar b then (if -7 ≤ k ∧ k ≤ 7 then oI ((s.2.1 0).2 3 b) else .inr "java/lang/IllegalArgumentException") else .inr "java/lang/IndexOutOfBoundsException") (DN G a d h (s.1) (if isBar b ∧ -7 ≤ k ∧ k ≤ 7 then keyP (s.2.1 0) b k else (s.2.1 0)))) := by
  refine j_body (by decide +kernel) ⟨rfl, rfl⟩ rfl ?_
  have hF : Fr (FtD a d) h h := Fr.rf
  refine j_iload_n 1 dX9_setKey_0 rfl rfl ?_
  by_cases t1 : isBar b
  · refine J_callS0 (show jLk _ _ yX9_checkBar z9_checkBar _ from kX9_127) csX9_checkBar (c0_X9_checkBar hb t1) rfl rfl rfl rfl rfl dX9_setKey_1 rfl rfl ?_
    refine j_iload_n 2 dX9_setKey_4 rfl rfl ?_
    by_cases t5 : -7 ≤ k ∧ k ≤ 7
    · refine J_callS0 (show jLk _ _ yX9_checkKey z9_checkKey _ from kX9_141) csX9_checkKey (c0_X9_checkKey hk t5) rfl rfl rfl rfl rfl dX9_setKey_5 rfl rfl ?_
      refine j_aload_n 0 dX9_setKey_8 rfl rfl ?_
      refine j_get fX9_19 dX9_setKey_9 hD.1 rfl ?_
      refine j_iload_n 1 dX9_setKey_12 rfl rfl ?_
      refine J_callV1 kX9_144 cvX0_keyAt (hD.2.2.1).1 (c_X0_keyAt (hD.2.2.1) hb) rfl rfl rfl rfl rfl dX9_setKey_13 rfl rfl ?_
      refine J_top ((s.2.1 0).2 3 b) ?_ (by exact if_pos t1)
      refine j_istore_n 3 (L' := [(3, _), (0, _), (1, _), (2, _)]) dX9_setKey_16 rfl rfl rfl ?_
      refine j_aload_n 0 dX9_setKey_17 rfl rfl ?_
      refine J_callVW0 kX9_91 cvX9_forgetWhatFollows hD.1 (c_X9_forgetWhatFollows hD hI hZ) rfl rfl rfl rfl rfl dX9_setKey_18 rfl rfl (fun h hp => ?_)
      obtain ⟨hD, hF9⟩ := hp
      have hF := hF.tr hF9
      have hD : Desk G h a d (s.1, s.2.1, f0 s.2.2) := hD
      refine j_aload_n 0 dX9_setKey_21 rfl rfl ?_
      refine j_get fX9_19 dX9_setKey_22 hD.1 rfl ?_
      refine j_iload_n 1 dX9_setKey_25 rfl rfl ?_
      refine j_iload_n 2 dX9_setKey_26 rfl rfl ?_
      refine J_callVW0 kX9_147 cvX0_changeKey (hD.2.2.1).1 (c_X0_changeKey (hD.2.2.1) t1) rfl rfl rfl rfl rfl dX9_setKey_27 rfl rfl (fun h hp => ?_)
      obtain ⟨hD, hF8⟩ := hD.w0 hZ hp.1 hp.2
      have hF := hF.tr hF8
      refine j_iload_n 3 dX9_setKey_30 rfl rfl ?_
      refine j_iret rfl dX9_setKey_31 ?_
      exact ⟨by rw [if_pos t1, if_pos t5], by rw [if_pos ⟨t1, t5⟩]; exact ⟨_, hD, hI.cal (hI.2.2.1.key t5), rfl, (by show upN s.2.1 0 (keyP (s.2.1 0) b k) 0 = _; exact upN_s _ _ _), hF⟩⟩
    · refine J_callSX kX9_141 csX9_checkKey (c_X9_checkKey hl0 hk t5) rfl rfl rfl rfl rfl dX9_setKey_5 rfl (by decide) (by decide) (fun h9 hp => ?_)
      exact ⟨by rw [if_pos t1, if_neg t5], by rw [if_neg (fun z => t5 z.2)]; exact DN.eq hp hD hI⟩
  · refine J_callSX kX9_127 csX9_checkBar (c_X9_checkBar hl0 hb t1) rfl rfl rfl rfl rfl dX9_setKey_1 rfl (by decide) (by decide) (fun h9 hp => ?_)
    exact ⟨by rw [if_neg t1], by rw [if_neg (fun z => t1 z.1)]; exact DN.eq hp hD hI⟩
set_option maxRecDepth 100000 in
theorem c_X9_setRange {l : Launch} {G : jG} {h : jH} {a : Nat} {d : DA} {s : DS} {Z : Nat → Nat} {k lo hi : Int} (hl0 : l.stackTraces = false) (hD : Desk G h a d s) (hI : DI s) (hZ : Dz a d Z) (hk : rg k) (hlo : rg lo) (hhi : rg hi) : jC l G yX9_setRange mX9_setRange [.ref a, vI k, vI lo, vI hi] h (jW (if 0 ≤ k ∧ k < 4 then (if 1 ≤ lo ∧ lo ≤ 62 ∧ lo ≤ hi ∧ hi ≤ 62 then oI (sumN (fOut (oU (oU (s.1 k.toNat) 9 lo) 10 hi)) ((s.1 k.toNat).1 7).toNat) else .inr "java/lang/IllegalArgumentException") else .inr "java/lang/IndexOutOfBoundsException") (DN G a d h (if (0 ≤ k ∧ k < 4) ∧ 1 ≤ lo ∧ lo ≤ 62 ∧ lo ≤ hi ∧ hi ≤ 62 then upN s.1 k.toNat (oU (oU (s.1 k.toNat) 9 lo) 10 hi) else s.1) ((s.2.1 0)))) := by
  refine j_body (by decide +kernel) ⟨rfl, rfl⟩ rfl ?_
  have hF : Fr (FtD a d) h h := Fr.rf
  refine j_aload_n 0 dX9_setRange_0 rfl rfl ?_
  refine j_iload_n 1 dX9_setRange_1 rfl rfl ?_
  by_cases t2 : 0 ≤ k ∧ k < 4
  · refine J_callV1 (show jLk _ _ yX9_partAt z9_partAt _ from kX9_75) cvX9_partAt hD.1 (c0_X9_partAt hD hI hZ t2) rfl rfl rfl rfl rfl dX9_setRange_2 rfl rfl ?_
    have hPk := hD.2.1.2 k.toNat (by omega)
    have hPt := hI.1 k.toNat (by omega)
    have hn7 : 0 ≤ (s.1 k.toNat).1 7 ∧ (s.1 k.toNat).1 7 ≤ 512 := hPt.1
    have hz8 := hPt.2.2.1.1
    refine j_astore (L' := [(4, _), (0, _), (1, _), (2, _), (3, _)]) dX9_setRange_5 rfl rfl ?_
    refine j_iload_n 2 dX9_setRange_7 rfl rfl ?_
    refine J_iconst dX9_setRange_8 ?_
    refine J_icmp_lt 29 dX9_setRange_9 (by decide) (fun c9 => ?_) (fun c9 => ?_) 
    · refine j_throwS (k := 10) hl0 rfl nX9_130 rfl rfl dX9_setRange_29 dX9_setRange_32 dX9_setRange_33 dX9_setRange_35 dX9_setRange_38 rfl rfl (by decide) (by decide) ?_
      exact ⟨by rw [if_pos t2, if_neg (show ¬ (1 ≤ lo ∧ lo ≤ 62 ∧ lo ≤ hi ∧ hi ≤ 62) by omega)], by rw [if_neg (fun z => absurd z.2 (show ¬ (1 ≤ lo ∧ lo ≤ 62 ∧ lo ≤ hi ∧ hi ≤ 62) by omega))]; exact DN.same hD hI⟩
    · refine j_iload_n 2 dX9_setRange_12 rfl rfl ?_
      refine J_bipush dX9_setRange_13 (by decide) ?_
      refine J_icmp_gt 29 dX9_setRange_15 (by decide) (fun c15 => ?_) (fun c15 => ?_) 
      · refine j_throwS (k := 10) hl0 rfl nX9_130 rfl rfl dX9_setRange_29 dX9_setRange_32 dX9_setRange_33 dX9_setRange_35 dX9_setRange_38 rfl rfl (by decide) (by decide) ?_
        exact ⟨by rw [if_pos t2, if_neg (show ¬ (1 ≤ lo ∧ lo ≤ 62 ∧ lo ≤ hi ∧ hi ≤ 62) by omega)], by rw [if_neg (fun z => absurd z.2 (show ¬ (1 ≤ lo ∧ lo ≤ 62 ∧ lo ≤ hi ∧ hi ≤ 62) by omega))]; exact DN.same hD hI⟩
      · refine j_iload_n 3 dX9_setRange_18 rfl rfl ?_
        refine j_iload_n 2 dX9_setRange_19 rfl rfl ?_
        refine J_icmp_lt 29 dX9_setRange_20 (by decide) (fun c20 => ?_) (fun c20 => ?_) 
        · refine j_throwS (k := 10) hl0 rfl nX9_130 rfl rfl dX9_setRange_29 dX9_setRange_32 dX9_setRange_33 dX9_setRange_35 dX9_setRange_38 rfl rfl (by decide) (by decide) ?_
          exact ⟨by rw [if_pos t2, if_neg (show ¬ (1 ≤ lo ∧ lo ≤ 62 ∧ lo ≤ hi ∧ hi ≤ 62) by omega)], by rw [if_neg (fun z => absurd z.2 (show ¬ (1 ≤ lo ∧ lo ≤ 62 ∧ lo ≤ hi ∧ hi ≤ 62) by omega))]; exact DN.same hD hI⟩
        · refine j_iload_n 3 dX9_setRange_23 rfl rfl ?_
          refine J_bipush dX9_setRange_24 (by decide) ?_
          refine J_icmp_le 39 dX9_setRange_26 (by decide) (fun c26 => ?_) (fun c26 => ?_) 
          · refine j_aload_n 0 dX9_setRange_39 rfl rfl ?_
            refine J_callVW0 kX9_91 cvX9_forgetWhatFollows hD.1 (c_X9_forgetWhatFollows hD hI hZ) rfl rfl rfl rfl rfl dX9_setRange_40 rfl rfl (fun h hp => ?_)
            obtain ⟨hD, hF9⟩ := hp
            have hF := hF.tr hF9
            have hD : Desk G h a d (s.1, s.2.1, f0 s.2.2) := hD
            have hPk : AtX6 G h (d.pad k.toNat) (d.pq k.toNat) (s.1 k.toNat) := hD.2.1.2 k.toNat (by omega)
            refine j_aload dX9_setRange_43 rfl ?_
            refine j_iload_n 2 dX9_setRange_45 rfl rfl ?_
            refine j_iload_n 3 dX9_setRange_46 rfl rfl ?_
            have hPr := hPt.range (lo := lo) (hi := hi) (by omega)
            refine J_callVW0 kX9_152 cvX6_changeRange hPk.1 (c_X6_changeRange hPk) rfl rfl rfl rfl rfl dX9_setRange_47 rfl rfl (fun h hp => ?_)
            obtain ⟨hD, hF8⟩ := hD.wP hZ (by omega) hp.1 hp.2
            have hF := hF.tr hF8
            have hD : Desk G h a d (upN s.1 k.toNat (oU (oU (s.1 k.toNat) 9 lo) 10 hi), s.2.1, f0 s.2.2) := hD
            have hev : evs (upN s.1 k.toNat (oU (oU (s.1 k.toNat) 9 lo) 10 hi)) ≤ 512 := by
              have e3 : (oU (oU (s.1 k.toNat) 9 lo) 10 hi).1 7 = (s.1 k.toNat).1 7 := rfl
              have e2 := evs_up s.1 (k := k.toNat) (by omega) (oU (oU (s.1 k.toNat) 9 lo) 10 hi)
              have := hI.2.1
              omega
            have hPq : AtX6 G h (d.pad k.toNat) (d.pq k.toNat) (oU (oU (s.1 k.toNat) 9 lo) 10 hi) := by have g := hD.2.1.2 k.toNat (by omega); rw [show (upN s.1 k.toNat (oU (oU (s.1 k.toNat) 9 lo) 10 hi), s.2.1, f0 s.2.2).1 k.toNat = (oU (oU (s.1 k.toNat) 9 lo) 10 hi) from upN_s _ _ _] at g; exact g
            have hPk := hPq
            refine j_aload dX9_setRange_50 rfl ?_
            refine J_callV1 kX9_155 cvX6_notesOutOfRange hPk.1 (c_X6_notesOutOfRange hPq hPr.1 hPr.2.1 hPr.2.2.1) rfl rfl rfl rfl rfl dX9_setRange_52 rfl rfl ?_
            refine j_iret rfl dX9_setRange_55 ?_
            exact ⟨by rw [if_pos t2, if_pos (show 1 ≤ lo ∧ lo ≤ 62 ∧ lo ≤ hi ∧ hi ≤ 62 by omega)]; rfl, by rw [if_pos ⟨t2, show 1 ≤ lo ∧ lo ≤ 62 ∧ lo ≤ hi ∧ hi ≤ 62 by omega⟩]; exact ⟨_, hD, hI.new (hI.1.up hPr) hev, rfl, rfl, hF⟩⟩
          · refine j_throwS (k := 10) hl0 rfl nX9_130 rfl rfl dX9_setRange_29 dX9_setRange_32 dX9_setRange_33 dX9_setRange_35 dX9_setRange_38 rfl rfl (by decide) (by decide) ?_
            exact ⟨by rw [if_pos t2, if_neg (show ¬ (1 ≤ lo ∧ lo ≤ 62 ∧ lo ≤ hi ∧ hi ≤ 62) by omega)], by rw [if_neg (fun z => absurd z.2 (show ¬ (1 ≤ lo ∧ lo ≤ 62 ∧ lo ≤ hi ∧ hi ≤ 62) by omega))]; exact DN.same hD hI⟩
  · refine J_callVX kX9_75 cvX9_partAt hD.1 (c_X9_partAt hl0 hD hI hZ hk t2) rfl rfl rfl rfl rfl dX9_setRange_2 rfl (by decide) (by decide) (fun h9 hp => ?_)
    exact ⟨by rw [if_neg t2], by rw [if_neg (fun z => t2 z.1)]; exact DN.eq hp hD hI⟩
set_option maxRecDepth 100000 in
theorem c_X9_setShift {l : Launch} {G : jG} {h : jH} {a : Nat} {d : DA} {s : DS} {Z : Nat → Nat} {k fi oc : Int} (hl0 : l.stackTraces = false) (hD : Desk G h a d s) (hI : DI s) (hZ : Dz a d Z) (hk : rg k) (hfi : rg fi) (hoc : rg oc) : jC l G yX9_setShift mX9_setShift [.ref a, vI k, vI fi, vI oc] h (jW (if 0 ≤ k ∧ k < 4 then (if (-6 ≤ fi ∧ fi ≤ 6) ∧ -2 ≤ oc ∧ oc ≤ 2 then oI (sumN (fNoW (wfiN (oU (oU (s.1 k.toNat) 11 fi) 12 oc) ((s.1 k.toNat).1 7).toNat)) ((s.1 k.toNat).1 7).toNat) else .inr "java/lang/IllegalArgumentException") else .inr "java/lang/IndexOutOfBoundsException") (DN G a d h (if (0 ≤ k ∧ k < 4) ∧ (-6 ≤ fi ∧ fi ≤ 6) ∧ -2 ≤ oc ∧ oc ≤ 2 then upN s.1 k.toNat (wfiN (oU (oU (s.1 k.toNat) 11 fi) 12 oc) ((s.1 k.toNat).1 7).toNat) else s.1) ((s.2.1 0)))) := by
  refine j_body (by decide +kernel) ⟨rfl, rfl⟩ rfl ?_
  have hF : Fr (FtD a d) h h := Fr.rf
  refine j_aload_n 0 dX9_setShift_0 rfl rfl ?_
  refine j_iload_n 1 dX9_setShift_1 rfl rfl ?_
  by_cases t2 : 0 ≤ k ∧ k < 4
  · refine J_callV1 (show jLk _ _ yX9_partAt z9_partAt _ from kX9_75) cvX9_partAt hD.1 (c0_X9_partAt hD hI hZ t2) rfl rfl rfl rfl rfl dX9_setShift_2 rfl rfl ?_
    have hPk := hD.2.1.2 k.toNat (by omega)
    have hPt := hI.1 k.toNat (by omega)
    have hn7 : 0 ≤ (s.1 k.toNat).1 7 ∧ (s.1 k.toNat).1 7 ≤ 512 := hPt.1
    have hz8 := hPt.2.2.1.1
    refine j_astore (L' := [(4, _), (0, _), (1, _), (2, _), (3, _)]) dX9_setShift_5 rfl rfl ?_
    refine j_iload_n 2 dX9_setShift_7 rfl rfl ?_
    refine J_bipush dX9_setShift_8 (by decide) ?_
    refine J_icmp_lt 30 dX9_setShift_10 (by decide) (fun c10 => ?_) (fun c10 => ?_) 
    · refine j_throwS (k := 11) hl0 rfl nX9_130 rfl rfl dX9_setShift_30 dX9_setShift_33 dX9_setShift_34 dX9_setShift_36 dX9_setShift_39 rfl rfl (by decide) (by decide) ?_
      exact ⟨by rw [if_pos t2, if_neg (show ¬ ((-6 ≤ fi ∧ fi ≤ 6) ∧ -2 ≤ oc ∧ oc ≤ 2) by omega)], by rw [if_neg (fun z => absurd z.2 (show ¬ ((-6 ≤ fi ∧ fi ≤ 6) ∧ -2 ≤ oc ∧ oc ≤ 2) by omega))]; exact DN.same hD hI⟩
    · refine j_iload_n 2 dX9_setShift_13 rfl rfl ?_
      refine J_bipush dX9_setShift_14 (by decide) ?_
      refine J_icmp_gt 30 dX9_setShift_16 (by decide) (fun c16 => ?_) (fun c16 => ?_) 
      · refine j_throwS (k := 11) hl0 rfl nX9_130 rfl rfl dX9_setShift_30 dX9_setShift_33 dX9_setShift_34 dX9_setShift_36 dX9_setShift_39 rfl rfl (by decide) (by decide) ?_
        exact ⟨by rw [if_pos t2, if_neg (show ¬ ((-6 ≤ fi ∧ fi ≤ 6) ∧ -2 ≤ oc ∧ oc ≤ 2) by omega)], by rw [if_neg (fun z => absurd z.2 (show ¬ ((-6 ≤ fi ∧ fi ≤ 6) ∧ -2 ≤ oc ∧ oc ≤ 2) by omega))]; exact DN.same hD hI⟩
      · refine j_iload_n 3 dX9_setShift_19 rfl rfl ?_
        refine J_bipush dX9_setShift_20 (by decide) ?_
        refine J_icmp_lt 30 dX9_setShift_22 (by decide) (fun c22 => ?_) (fun c22 => ?_) 
        · refine j_throwS (k := 11) hl0 rfl nX9_130 rfl rfl dX9_setShift_30 dX9_setShift_33 dX9_setShift_34 dX9_setShift_36 dX9_setShift_39 rfl rfl (by decide) (by decide) ?_
          exact ⟨by rw [if_pos t2, if_neg (show ¬ ((-6 ≤ fi ∧ fi ≤ 6) ∧ -2 ≤ oc ∧ oc ≤ 2) by omega)], by rw [if_neg (fun z => absurd z.2 (show ¬ ((-6 ≤ fi ∧ fi ≤ 6) ∧ -2 ≤ oc ∧ oc ≤ 2) by omega))]; exact DN.same hD hI⟩
        · refine j_iload_n 3 dX9_setShift_25 rfl rfl ?_
          refine J_iconst dX9_setShift_26 ?_
          refine J_icmp_le 40 dX9_setShift_27 (by decide) (fun c27 => ?_) (fun c27 => ?_) 
          · refine j_aload_n 0 dX9_setShift_40 rfl rfl ?_
            refine J_callVW0 kX9_91 cvX9_forgetWhatFollows hD.1 (c_X9_forgetWhatFollows hD hI hZ) rfl rfl rfl rfl rfl dX9_setShift_41 rfl rfl (fun h hp => ?_)
            obtain ⟨hD, hF9⟩ := hp
            have hF := hF.tr hF9
            have hD : Desk G h a d (s.1, s.2.1, f0 s.2.2) := hD
            have hPk : AtX6 G h (d.pad k.toNat) (d.pq k.toNat) (s.1 k.toNat) := hD.2.1.2 k.toNat (by omega)
            refine j_aload dX9_setShift_44 rfl ?_
            refine j_iload_n 2 dX9_setShift_46 rfl rfl ?_
            refine j_iload_n 3 dX9_setShift_47 rfl rfl ?_
            have hPr := hPt.shift (fi := fi) (oc := oc) (by omega) (by omega)
            have e3 : (wfiN (oU (oU (s.1 k.toNat) 11 fi) 12 oc) ((s.1 k.toNat).1 7).toNat).1 7 = (s.1 k.toNat).1 7 := by rw [(wfiN_f _ _).1]; rfl
            refine J_callVW0 kX9_160 cvX6_changeShift hPk.1 (c_X6_changeShift hPk hPt.1 hPt.2.1 hPt.2.2.1 (by omega) (by omega)) rfl rfl rfl rfl rfl dX9_setShift_48 rfl rfl (fun h hp => ?_)
            obtain ⟨hD, hF8⟩ := hD.wP hZ (by omega) hp.1 hp.2
            have hF := hF.tr hF8
            have hD : Desk G h a d (upN s.1 k.toNat (wfiN (oU (oU (s.1 k.toNat) 11 fi) 12 oc) ((s.1 k.toNat).1 7).toNat), s.2.1, f0 s.2.2) := hD
            have hev : evs (upN s.1 k.toNat (wfiN (oU (oU (s.1 k.toNat) 11 fi) 12 oc) ((s.1 k.toNat).1 7).toNat)) ≤ 512 := by
              have e3 : (wfiN (oU (oU (s.1 k.toNat) 11 fi) 12 oc) ((s.1 k.toNat).1 7).toNat).1 7 = (s.1 k.toNat).1 7 := e3
              have e2 := evs_up s.1 (k := k.toNat) (by omega) (wfiN (oU (oU (s.1 k.toNat) 11 fi) 12 oc) ((s.1 k.toNat).1 7).toNat)
              have := hI.2.1
              omega
            have hPq : AtX6 G h (d.pad k.toNat) (d.pq k.toNat) (wfiN (oU (oU (s.1 k.toNat) 11 fi) 12 oc) ((s.1 k.toNat).1 7).toNat) := by have g := hD.2.1.2 k.toNat (by omega); rw [show (upN s.1 k.toNat (wfiN (oU (oU (s.1 k.toNat) 11 fi) 12 oc) ((s.1 k.toNat).1 7).toNat), s.2.1, f0 s.2.2).1 k.toNat = (wfiN (oU (oU (s.1 k.toNat) 11 fi) 12 oc) ((s.1 k.toNat).1 7).toNat) from upN_s _ _ _] at g; exact g
            have hct := c_X6_notesWithoutWrittenPitch (l := l) hPq hPr.1 hPr.2.1 hPr.2.2.1
            rw [e3] at hct
            have hPk := hPq
            refine j_aload dX9_setShift_51 rfl ?_
            refine J_callV1 kX9_163 cvX6_notesWithoutWrittenPitch hPk.1 hct rfl rfl rfl rfl rfl dX9_setShift_53 rfl rfl ?_
            refine j_iret rfl dX9_setShift_56 ?_
            exact ⟨by rw [if_pos t2, if_pos (show (-6 ≤ fi ∧ fi ≤ 6) ∧ -2 ≤ oc ∧ oc ≤ 2 by omega)], by rw [if_pos ⟨t2, show (-6 ≤ fi ∧ fi ≤ 6) ∧ -2 ≤ oc ∧ oc ≤ 2 by omega⟩]; exact ⟨_, hD, hI.new (hI.1.up hPr) hev, rfl, rfl, hF⟩⟩
          · refine j_throwS (k := 11) hl0 rfl nX9_130 rfl rfl dX9_setShift_30 dX9_setShift_33 dX9_setShift_34 dX9_setShift_36 dX9_setShift_39 rfl rfl (by decide) (by decide) ?_
            exact ⟨by rw [if_pos t2, if_neg (show ¬ ((-6 ≤ fi ∧ fi ≤ 6) ∧ -2 ≤ oc ∧ oc ≤ 2) by omega)], by rw [if_neg (fun z => absurd z.2 (show ¬ ((-6 ≤ fi ∧ fi ≤ 6) ∧ -2 ≤ oc ∧ oc ≤ 2) by omega))]; exact DN.same hD hI⟩
  · refine J_callVX kX9_75 cvX9_partAt hD.1 (c_X9_partAt hl0 hD hI hZ hk t2) rfl rfl rfl rfl rfl dX9_setShift_2 rfl (by decide) (by decide) (fun h9 hp => ?_)
    exact ⟨by rw [if_neg t2], by rw [if_neg (fun z => t2 z.1)]; exact DN.eq hp hD hI⟩
