theorem crs_eq {P : Nat → OS} (hs : scoOK P) {m : Nat} {i j : Int} (hi : 0 ≤ i ∧ i < 4) (hj : 0 ≤ j ∧ j < 4) (t : Int) : crsL (hiM P m) (bgM P m) t i j = if (hiM P m i ≠ -1 ∧ hiM P m j ≠ -1) ∧ (begB P m i ∨ begB P m j) ∧ hiM P m i < hiM P m j then [(2, t, 4 * i + j)] else [] := by
  have bi := bgM_ne hs (m := m) hi
  have bj := bgM_ne hs (m := m) hj
  unfold crsL
  by_cases c : (hiM P m i ≠ -1 ∧ hiM P m j ≠ -1) ∧ (begB P m i ∨ begB P m j) ∧ hiM P m i < hiM P m j
  · rw [if_pos c, if_pos ⟨c.1, c.2.1.imp (fun z => bi.mpr ⟨c.1.1, z⟩) (fun z => bj.mpr ⟨c.1.2, z⟩), c.2.2⟩]
  · rw [if_neg c, if_neg (fun z => c ⟨z.1, z.2.1.imp (fun y => (bi.mp y).2) (fun y => (bj.mp y).2), z.2.2⟩)]
def CS (P : Nat → OS) (p : OS) (w : Int) (m : Nat) (L : FL) (q : OS) : Prop := WS P (m + 1) q ∧ FS w L q ∧ (∀ k : Int, 0 ≤ k ∧ k < 4 → q.2 18 k = hiA P m k) ∧ KU p q
theorem CS.fu {P : Nat → OS} {p q q' : OS} {w : Int} {m : Nat} {L L' : FL} (h : CS P p w m L q) (hU : FU q q') (hS : FS w L' q') : CS P p w m L' q' := ⟨hU.ws h.1, hS, fun k hk => by rw [hU.2]; exact h.2.2.1 k hk, h.2.2.2.tr hU.ku⟩
theorem FS.wu {w : Int} {L : FL} {p p' : OS} (h : FS w L p) (hU : WU p p') : FS w L p' := by
  obtain ⟨h1, h2, h3⟩ := h
  refine ⟨(hU.1 22 (by decide)).trans h1, (hU.1 23 (by decide)).trans h2, fun x h0 hx => ?_⟩
  rw [hU.1 24 (by decide), hU.1 25 (by decide), hU.1 26 (by decide)]
  exact h3 x h0 hx
theorem WS.a18 {P : Nat → OS} {m : Nat} {p : OS} {F : Int → Int} (h : WS P m p) : WS P m (oA p 18 F) := ⟨h.1, fun k hk => h.2 k hk⟩
theorem FS.a18 {w : Int} {L : FL} {p : OS} {F : Int → Int} (h : FS w L p) : FS w L (oA p 18 F) := h
theorem KU.a18 {p q : OS} {F : Int → Int} (h : KU p q) : KU p (oA q 18 F) := h
theorem ah4 {P : Nat → OS} {m : Nat} (F : Int → Int) : ∀ k : Int, 0 ≤ k ∧ k < 4 → upI (upI (upI (upI F 0 (hiM P m 0)) 1 (hiM P m 1)) 2 (hiM P m 2)) 3 (hiM P m 3) k = hiA P (m + 1) k := fun k hk => by
  rcases (by omega : k = 0 ∨ k = 1 ∨ k = 2 ∨ k = 3) with e | e | e | e <;> subst e <;> rfl
theorem len_app {L X : FL} {n c : Nat} (h : L.length ≤ n) (hx : X.length ≤ c) : (L ++ X).length ≤ n + c := by rw [List.length_append]; omega
set_option maxRecDepth 100000 in
theorem c_X11_countFaults {l : Launch} {G : jG} {h : jH} {a : Nat} {d : MD} {mp P : Nat → OS} {p p0 : OS} {Z : Nat → Nat} {w : Int} (hM : Mod G h a d mp p) (hZ : Mz a d Z) (hI : MI d P p0 mp p.2) (hw : rg w) : jC l G yX11_countFaults mX11_countFaults [.ref a, vI w] h (jW (oI ((fauA P).length : Int)) (fun h' => ∃ p', Mod G h' a d mp p' ∧ FS w (fauA P) p' ∧ KU p p' ∧ Fr (FtM a d) h h')) := by
  have hs := hI.1.1
  have cross : ∀ (i j : Int) (m : Nat) (q : OS) (h2 : jH) (L : FL), 0 ≤ i ∧ i < 4 → 0 ≤ j ∧ j < 4 → Mod G h2 a d mp q → CS P p w m L q → L.length ≤ 2900 → Fr (FtM a d) h h2 → (∀ (q' : OS) (h3 : jH), Mod G h3 a d mp q' → CS P p w m (L ++ crsL (hiM P m) (bgM P m) (momT P m) i j) q' → Fr (FtM a d) h h3 → J l G mX11_countFaults (jQ G mX11_countFaults (jW (oI ((fauA P).length : Int)) (fun h' => ∃ p', Mod G h' a d mp p' ∧ FS w (fauA P) p' ∧ KU p p' ∧ Fr (FtM a d) h h'))) 0 0 136 [(3, vI j), (2, vI i), (0, .ref a), (1, vI w)] [] h3) → J l G mX11_countFaults (jQ G mX11_countFaults (jW (oI ((fauA P).length : Int)) (fun h' => ∃ p', Mod G h' a d mp p' ∧ FS w (fauA P) p' ∧ KU p p' ∧ Fr (FtM a d) h h'))) 0 0 79 [(3, vI j), (2, vI i), (0, .ref a), (1, vI w)] [] h2 := by
    intro i j m q h2 L hi hj hM2 hC hL hF kk
    have hP := hM2.1
    have hI2 := hC.2.2.2.mi hI
    have a3 := hiM_rgI hs m i hi
    have a4 := hiM_rgI hs m j hj
    have heq := crs_eq hs (m := m) hi hj (momT P m)
    refine j_aload_n 0 dX11_countFaults_79 rfl rfl ?_
    refine j_iload_n 2 dX11_countFaults_80 rfl rfl ?_
    refine J_callV1 kX11_258 cvX11_soundsNow hP.1 (c_X11_soundsNow hM2 hZ hI2 hC.1 hi) rfl rfl rfl rfl rfl dX11_countFaults_81 rfl rfl ?_
    refine J_iconst dX11_countFaults_84 ?_
    refine J_icmp_eq 136 dX11_countFaults_85 (by decide) (fun c85 => ?_) (fun c85 => ?_) 
    · refine kk q h2 hM2 ?_ hF
      rw [heq, if_neg (fun z => z.1.1 c85), List.append_nil]
      exact hC
    · refine j_aload_n 0 dX11_countFaults_88 rfl rfl ?_
      refine j_iload_n 3 dX11_countFaults_89 rfl rfl ?_
      refine J_callV1 kX11_258 cvX11_soundsNow hP.1 (c_X11_soundsNow hM2 hZ hI2 hC.1 hj) rfl rfl rfl rfl rfl dX11_countFaults_90 rfl rfl ?_
      refine J_iconst dX11_countFaults_93 ?_
      refine J_icmp_eq 136 dX11_countFaults_94 (by decide) (fun c94 => ?_) (fun c94 => ?_) 
      · refine kk q h2 hM2 ?_ hF
        rw [heq, if_neg (fun z => z.1.2 c94), List.append_nil]
        exact hC
      · refine j_aload_n 0 dX11_countFaults_97 rfl rfl ?_
        refine j_iload_n 2 dX11_countFaults_98 rfl rfl ?_
        refine J_callVZ kX11_291 cvX11_begins hP.1 (c_X11_begins hM2 hZ hI2 hC.1 hi) rfl rfl rfl rfl rfl dX11_countFaults_99 rfl rfl (fun z99 => ?_) (fun z99 => ?_)
        · refine J_if_ne 113 dX11_countFaults_102 (by decide) (fun c102 => ?_) (fun c102 => absurd c102 (by decide)) 
          refine j_aload_n 0 dX11_countFaults_113 rfl rfl ?_
          refine j_iload_n 2 dX11_countFaults_114 rfl rfl ?_
          refine J_callV1 kX11_258 cvX11_soundsNow hP.1 (c_X11_soundsNow hM2 hZ hI2 hC.1 hi) rfl rfl rfl rfl rfl dX11_countFaults_115 rfl rfl ?_
          refine j_aload_n 0 dX11_countFaults_118 rfl rfl ?_
          refine j_iload_n 3 dX11_countFaults_119 rfl rfl ?_
          refine J_callV1 kX11_258 cvX11_soundsNow hP.1 (c_X11_soundsNow hM2 hZ hI2 hC.1 hj) rfl rfl rfl rfl rfl dX11_countFaults_120 rfl rfl ?_
          refine J_icmp_ge 136 dX11_countFaults_123 (by decide) (fun c123 => ?_) (fun c123 => ?_) 
          · refine kk q h2 hM2 ?_ hF
            rw [heq, if_neg (fun z => absurd z.2.2 (Int.not_lt.mpr c123)), List.append_nil]
            exact hC
          · refine j_aload_n 0 dX11_countFaults_126 rfl rfl ?_
            refine J_iconst dX11_countFaults_127 ?_
            refine J_iconst dX11_countFaults_128 ?_
            refine j_iload_n 2 dX11_countFaults_129 rfl rfl ?_
            refine J_imul dX11_countFaults_130 ?_
            refine j_iload_n 3 dX11_countFaults_131 rfl rfl ?_
            refine J_iadd dX11_countFaults_132 ?_
            refine J_callVW0 kX11_294 cvX11_blame hP.1 (c_X11_blame hM2 hZ hI2 (kd := 2) (ps := 4 * i + j) hC.2.1 hw (by omega)) rfl rfl rfl rfl rfl dX11_countFaults_133 rfl rfl (fun h hp => ?_)
            obtain ⟨p', hM3, hS3, hU3, hF9⟩ := hp
            have hq15 : q.1 15 = momT P m := hC.1.1
            rw [hq15] at hS3
            refine kk p' _ hM3 (hC.fu hU3 ?_) (hF.tr hF9)
            rw [heq, if_pos ⟨⟨c85, c94⟩, Or.inl z99, c123⟩]
            exact hS3
        · refine J_if_ne 113 dX11_countFaults_102 (by decide) (fun c102 => absurd c102 (by decide)) (fun c102 => ?_) 
          refine j_aload_n 0 dX11_countFaults_105 rfl rfl ?_
          refine j_iload_n 3 dX11_countFaults_106 rfl rfl ?_
          refine J_callVZ kX11_291 cvX11_begins hP.1 (c_X11_begins hM2 hZ hI2 hC.1 hj) rfl rfl rfl rfl rfl dX11_countFaults_107 rfl rfl (fun z107 => ?_) (fun z107 => ?_)
          · refine J_if_eq 136 dX11_countFaults_110 (by decide) (fun c110 => absurd c110 (by decide)) (fun c110 => ?_) 
            refine j_aload_n 0 dX11_countFaults_113 rfl rfl ?_
            refine j_iload_n 2 dX11_countFaults_114 rfl rfl ?_
            refine J_callV1 kX11_258 cvX11_soundsNow hP.1 (c_X11_soundsNow hM2 hZ hI2 hC.1 hi) rfl rfl rfl rfl rfl dX11_countFaults_115 rfl rfl ?_
            refine j_aload_n 0 dX11_countFaults_118 rfl rfl ?_
            refine j_iload_n 3 dX11_countFaults_119 rfl rfl ?_
            refine J_callV1 kX11_258 cvX11_soundsNow hP.1 (c_X11_soundsNow hM2 hZ hI2 hC.1 hj) rfl rfl rfl rfl rfl dX11_countFaults_120 rfl rfl ?_
            refine J_icmp_ge 136 dX11_countFaults_123 (by decide) (fun c123 => ?_) (fun c123 => ?_) 
            · refine kk q h2 hM2 ?_ hF
              rw [heq, if_neg (fun z => absurd z.2.2 (Int.not_lt.mpr c123)), List.append_nil]
              exact hC
            · refine j_aload_n 0 dX11_countFaults_126 rfl rfl ?_
              refine J_iconst dX11_countFaults_127 ?_
              refine J_iconst dX11_countFaults_128 ?_
              refine j_iload_n 2 dX11_countFaults_129 rfl rfl ?_
              refine J_imul dX11_countFaults_130 ?_
              refine j_iload_n 3 dX11_countFaults_131 rfl rfl ?_
              refine J_iadd dX11_countFaults_132 ?_
              refine J_callVW0 kX11_294 cvX11_blame hP.1 (c_X11_blame hM2 hZ hI2 (kd := 2) (ps := 4 * i + j) hC.2.1 hw (by omega)) rfl rfl rfl rfl rfl dX11_countFaults_133 rfl rfl (fun h hp => ?_)
              obtain ⟨p', hM3, hS3, hU3, hF9⟩ := hp
              have hq15 : q.1 15 = momT P m := hC.1.1
              rw [hq15] at hS3
              refine kk p' _ hM3 (hC.fu hU3 ?_) (hF.tr hF9)
              rw [heq, if_pos ⟨⟨c85, c94⟩, Or.inr z107, c123⟩]
              exact hS3
          · refine J_if_eq 136 dX11_countFaults_110 (by decide) (fun c110 => ?_) (fun c110 => absurd c110 (by decide)) 
            refine kk q h2 hM2 ?_ hF
            rw [heq, if_neg (fun z => z.2.1.elim z99 z107), List.append_nil]
            exact hC
  have moment : ∀ (m : Nat) (q : OS) (h2 : jH) (L : FL), Mod G h2 a d mp q → CS P p w m L q → L.length ≤ 2560 → Fr (FtM a d) h h2 → (∀ (q' : OS) (h3 : jH), Mod G h3 a d mp q' → WS P (m + 1) q' → FS w (L ++ fauAt P m) q' → (∀ k : Int, 0 ≤ k ∧ k < 4 → q'.2 18 k = hiA P (m + 1) k) → KU p q' → Fr (FtM a d) h h3 → J l G mX11_countFaults (jQ G mX11_countFaults (jW (oI ((fauA P).length : Int)) (fun h' => ∃ p', Mod G h' a d mp p' ∧ FS w (fauA P) p' ∧ KU p p' ∧ Fr (FtM a d) h h'))) 0 0 22 [(2, vI 4), (3, vI 4), (0, .ref a), (1, vI w)] [] h3) → J l G mX11_countFaults (jQ G mX11_countFaults (jW (oI ((fauA P).length : Int)) (fun h' => ∃ p', Mod G h' a d mp p' ∧ FS w (fauA P) p' ∧ KU p p' ∧ Fr (FtM a d) h h'))) 0 0 29 [(0, .ref a), (1, vI w)] [] h2 := by
    intro m q h2 L hM2 hC hL hF kk
    have hP := hM2.1
    refine J_iconst dX11_countFaults_29 ?_
    refine j_istore_n 2 (L' := [(2, vI 0), (0, .ref a), (1, vI w)]) dX11_countFaults_30 rfl rfl rfl ?_
    refine j_iload_n 2 dX11_countFaults_31 rfl rfl ?_
    refine J_iconst dX11_countFaults_32 ?_
    refine J_icmp_ge 63 dX11_countFaults_33 (by decide) (fun c => absurd c (by decide)) (fun c => ?_) (by decide)
    refine j_iload_n 2 dX11_countFaults_36 rfl rfl ?_
    refine J_iconst dX11_countFaults_37 ?_
    refine J_iadd dX11_countFaults_38 ?_
    refine j_istore_n 3 (L' := [(3, vI 1), (2, vI 0), (0, .ref a), (1, vI w)]) dX11_countFaults_39 rfl rfl rfl ?_
    refine j_iload_n 3 dX11_countFaults_40 rfl rfl ?_
    refine J_iconst dX11_countFaults_41 ?_
    refine J_icmp_ge 57 dX11_countFaults_42 (by decide) (fun c => absurd c (by decide)) (fun c => ?_) (by decide)
    refine j_aload_n 0 dX11_countFaults_45 rfl rfl ?_
    refine j_iload_n 2 dX11_countFaults_46 rfl rfl ?_
    refine j_iload_n 3 dX11_countFaults_47 rfl rfl ?_
    refine J_callVW0 kX11_288 cvX11_blameParallels hP.1 (c_X11_blameParallels hM2 hZ (hC.2.2.2.mi hI) hC.1 hC.2.2.1 (i := 0) (j := 1) (by decide) (by decide) hC.2.1 hw (by omega)) rfl rfl rfl rfl rfl dX11_countFaults_48 rfl rfl (fun h hp => ?_)
    obtain ⟨q, hM2, hS, hU, hF9⟩ := hp
    have hF := hF.tr hF9
    have hP := hM2.1
    have hC := hC.fu hU hS
    have hL := len_app hL (par_len (hiA P m) (hiM P m) (wyM P m) (momT P m) 0 1).1
    refine J_iinc (L' := [(3, vI 2), (2, vI 0), (0, .ref a), (1, vI w)]) dX11_countFaults_51 rfl rfl rfl ?_
    refine j_goto 40 dX11_countFaults_54 (by decide) ?_
    refine j_iload_n 3 dX11_countFaults_40 rfl rfl ?_
    refine J_iconst dX11_countFaults_41 ?_
    refine J_icmp_ge 57 dX11_countFaults_42 (by decide) (fun c => absurd c (by decide)) (fun c => ?_) (by decide)
    refine j_aload_n 0 dX11_countFaults_45 rfl rfl ?_
    refine j_iload_n 2 dX11_countFaults_46 rfl rfl ?_
    refine j_iload_n 3 dX11_countFaults_47 rfl rfl ?_
    refine J_callVW0 kX11_288 cvX11_blameParallels hP.1 (c_X11_blameParallels hM2 hZ (hC.2.2.2.mi hI) hC.1 hC.2.2.1 (i := 0) (j := 2) (by decide) (by decide) hC.2.1 hw (by omega)) rfl rfl rfl rfl rfl dX11_countFaults_48 rfl rfl (fun h hp => ?_)
    obtain ⟨q, hM2, hS, hU, hF9⟩ := hp
    have hF := hF.tr hF9
    have hP := hM2.1
    have hC := hC.fu hU hS
    have hL := len_app hL (par_len (hiA P m) (hiM P m) (wyM P m) (momT P m) 0 2).1
    refine J_iinc (L' := [(3, vI 3), (2, vI 0), (0, .ref a), (1, vI w)]) dX11_countFaults_51 rfl rfl rfl ?_
    refine j_goto 40 dX11_countFaults_54 (by decide) ?_
    refine j_iload_n 3 dX11_countFaults_40 rfl rfl ?_
    refine J_iconst dX11_countFaults_41 ?_
    refine J_icmp_ge 57 dX11_countFaults_42 (by decide) (fun c => absurd c (by decide)) (fun c => ?_) (by decide)
    refine j_aload_n 0 dX11_countFaults_45 rfl rfl ?_
    refine j_iload_n 2 dX11_countFaults_46 rfl rfl ?_
    refine j_iload_n 3 dX11_countFaults_47 rfl rfl ?_
    refine J_callVW0 kX11_288 cvX11_blameParallels hP.1 (c_X11_blameParallels hM2 hZ (hC.2.2.2.mi hI) hC.1 hC.2.2.1 (i := 0) (j := 3) (by decide) (by decide) hC.2.1 hw (by omega)) rfl rfl rfl rfl rfl dX11_countFaults_48 rfl rfl (fun h hp => ?_)
    obtain ⟨q, hM2, hS, hU, hF9⟩ := hp
    have hF := hF.tr hF9
    have hP := hM2.1
    have hC := hC.fu hU hS
    have hL := len_app hL (par_len (hiA P m) (hiM P m) (wyM P m) (momT P m) 0 3).1
    refine J_iinc (L' := [(3, vI 4), (2, vI 0), (0, .ref a), (1, vI w)]) dX11_countFaults_51 rfl rfl rfl ?_
    refine j_goto 40 dX11_countFaults_54 (by decide) ?_
    refine j_iload_n 3 dX11_countFaults_40 rfl rfl ?_
    refine J_iconst dX11_countFaults_41 ?_
    refine J_icmp_ge 57 dX11_countFaults_42 (by decide) (fun c => ?_) (fun c => absurd c (by decide)) (by decide)
    refine J_iinc (L' := [(2, vI 1), (3, vI 4), (0, .ref a), (1, vI w)]) dX11_countFaults_57 rfl rfl rfl ?_
    refine j_goto 31 dX11_countFaults_60 (by decide) ?_
    refine j_iload_n 2 dX11_countFaults_31 rfl rfl ?_
    refine J_iconst dX11_countFaults_32 ?_
    refine J_icmp_ge 63 dX11_countFaults_33 (by decide) (fun c => absurd c (by decide)) (fun c => ?_) (by decide)
    refine j_iload_n 2 dX11_countFaults_36 rfl rfl ?_
    refine J_iconst dX11_countFaults_37 ?_
    refine J_iadd dX11_countFaults_38 ?_
    refine j_istore_n 3 (L' := [(3, vI 2), (2, vI 1), (0, .ref a), (1, vI w)]) dX11_countFaults_39 rfl rfl rfl ?_
    refine j_iload_n 3 dX11_countFaults_40 rfl rfl ?_
    refine J_iconst dX11_countFaults_41 ?_
    refine J_icmp_ge 57 dX11_countFaults_42 (by decide) (fun c => absurd c (by decide)) (fun c => ?_) (by decide)
    refine j_aload_n 0 dX11_countFaults_45 rfl rfl ?_
    refine j_iload_n 2 dX11_countFaults_46 rfl rfl ?_
    refine j_iload_n 3 dX11_countFaults_47 rfl rfl ?_
    refine J_callVW0 kX11_288 cvX11_blameParallels hP.1 (c_X11_blameParallels hM2 hZ (hC.2.2.2.mi hI) hC.1 hC.2.2.1 (i := 1) (j := 2) (by decide) (by decide) hC.2.1 hw (by omega)) rfl rfl rfl rfl rfl dX11_countFaults_48 rfl rfl (fun h hp => ?_)
    obtain ⟨q, hM2, hS, hU, hF9⟩ := hp
    have hF := hF.tr hF9
    have hP := hM2.1
    have hC := hC.fu hU hS
    have hL := len_app hL (par_len (hiA P m) (hiM P m) (wyM P m) (momT P m) 1 2).1
    refine J_iinc (L' := [(3, vI 3), (2, vI 1), (0, .ref a), (1, vI w)]) dX11_countFaults_51 rfl rfl rfl ?_
    refine j_goto 40 dX11_countFaults_54 (by decide) ?_
    refine j_iload_n 3 dX11_countFaults_40 rfl rfl ?_
    refine J_iconst dX11_countFaults_41 ?_
    refine J_icmp_ge 57 dX11_countFaults_42 (by decide) (fun c => absurd c (by decide)) (fun c => ?_) (by decide)
    refine j_aload_n 0 dX11_countFaults_45 rfl rfl ?_
    refine j_iload_n 2 dX11_countFaults_46 rfl rfl ?_
    refine j_iload_n 3 dX11_countFaults_47 rfl rfl ?_
    refine J_callVW0 kX11_288 cvX11_blameParallels hP.1 (c_X11_blameParallels hM2 hZ (hC.2.2.2.mi hI) hC.1 hC.2.2.1 (i := 1) (j := 3) (by decide) (by decide) hC.2.1 hw (by omega)) rfl rfl rfl rfl rfl dX11_countFaults_48 rfl rfl (fun h hp => ?_)
    obtain ⟨q, hM2, hS, hU, hF9⟩ := hp
    have hF := hF.tr hF9
    have hP := hM2.1
    have hC := hC.fu hU hS
    have hL := len_app hL (par_len (hiA P m) (hiM P m) (wyM P m) (momT P m) 1 3).1
    refine J_iinc (L' := [(3, vI 4), (2, vI 1), (0, .ref a), (1, vI w)]) dX11_countFaults_51 rfl rfl rfl ?_
    refine j_goto 40 dX11_countFaults_54 (by decide) ?_
    refine j_iload_n 3 dX11_countFaults_40 rfl rfl ?_
    refine J_iconst dX11_countFaults_41 ?_
    refine J_icmp_ge 57 dX11_countFaults_42 (by decide) (fun c => ?_) (fun c => absurd c (by decide)) (by decide)
    refine J_iinc (L' := [(2, vI 2), (3, vI 4), (0, .ref a), (1, vI w)]) dX11_countFaults_57 rfl rfl rfl ?_
    refine j_goto 31 dX11_countFaults_60 (by decide) ?_
    refine j_iload_n 2 dX11_countFaults_31 rfl rfl ?_
    refine J_iconst dX11_countFaults_32 ?_
    refine J_icmp_ge 63 dX11_countFaults_33 (by decide) (fun c => absurd c (by decide)) (fun c => ?_) (by decide)
    refine j_iload_n 2 dX11_countFaults_36 rfl rfl ?_
    refine J_iconst dX11_countFaults_37 ?_
    refine J_iadd dX11_countFaults_38 ?_
    refine j_istore_n 3 (L' := [(3, vI 3), (2, vI 2), (0, .ref a), (1, vI w)]) dX11_countFaults_39 rfl rfl rfl ?_
    refine j_iload_n 3 dX11_countFaults_40 rfl rfl ?_
    refine J_iconst dX11_countFaults_41 ?_
    refine J_icmp_ge 57 dX11_countFaults_42 (by decide) (fun c => absurd c (by decide)) (fun c => ?_) (by decide)
    refine j_aload_n 0 dX11_countFaults_45 rfl rfl ?_
    refine j_iload_n 2 dX11_countFaults_46 rfl rfl ?_
    refine j_iload_n 3 dX11_countFaults_47 rfl rfl ?_
    refine J_callVW0 kX11_288 cvX11_blameParallels hP.1 (c_X11_blameParallels hM2 hZ (hC.2.2.2.mi hI) hC.1 hC.2.2.1 (i := 2) (j := 3) (by decide) (by decide) hC.2.1 hw (by omega)) rfl rfl rfl rfl rfl dX11_countFaults_48 rfl rfl (fun h hp => ?_)
    obtain ⟨q, hM2, hS, hU, hF9⟩ := hp
    have hF := hF.tr hF9
    have hP := hM2.1
    have hC := hC.fu hU hS
    have hL := len_app hL (par_len (hiA P m) (hiM P m) (wyM P m) (momT P m) 2 3).1
    refine J_iinc (L' := [(3, vI 4), (2, vI 2), (0, .ref a), (1, vI w)]) dX11_countFaults_51 rfl rfl rfl ?_
    refine j_goto 40 dX11_countFaults_54 (by decide) ?_
    refine j_iload_n 3 dX11_countFaults_40 rfl rfl ?_
    refine J_iconst dX11_countFaults_41 ?_
    refine J_icmp_ge 57 dX11_countFaults_42 (by decide) (fun c => ?_) (fun c => absurd c (by decide)) (by decide)
    refine J_iinc (L' := [(2, vI 3), (3, vI 4), (0, .ref a), (1, vI w)]) dX11_countFaults_57 rfl rfl rfl ?_
    refine j_goto 31 dX11_countFaults_60 (by decide) ?_
    refine j_iload_n 2 dX11_countFaults_31 rfl rfl ?_
    refine J_iconst dX11_countFaults_32 ?_
    refine J_icmp_ge 63 dX11_countFaults_33 (by decide) (fun c => absurd c (by decide)) (fun c => ?_) (by decide)
    refine j_iload_n 2 dX11_countFaults_36 rfl rfl ?_
    refine J_iconst dX11_countFaults_37 ?_
    refine J_iadd dX11_countFaults_38 ?_
    refine j_istore_n 3 (L' := [(3, vI 4), (2, vI 3), (0, .ref a), (1, vI w)]) dX11_countFaults_39 rfl rfl rfl ?_
    refine j_iload_n 3 dX11_countFaults_40 rfl rfl ?_
    refine J_iconst dX11_countFaults_41 ?_
    refine J_icmp_ge 57 dX11_countFaults_42 (by decide) (fun c => ?_) (fun c => absurd c (by decide)) (by decide)
    refine J_iinc (L' := [(2, vI 4), (3, vI 4), (0, .ref a), (1, vI w)]) dX11_countFaults_57 rfl rfl rfl ?_
    refine j_goto 31 dX11_countFaults_60 (by decide) ?_
    refine j_iload_n 2 dX11_countFaults_31 rfl rfl ?_
    refine J_iconst dX11_countFaults_32 ?_
    refine J_icmp_ge 63 dX11_countFaults_33 (by decide) (fun c => ?_) (fun c => absurd c (by decide)) (by decide)
    refine J_iconst dX11_countFaults_63 ?_
    refine j_istore_n 2 (L' := [(2, vI 0), (3, vI 4), (0, .ref a), (1, vI w)]) dX11_countFaults_64 rfl rfl rfl ?_
    refine j_iload_n 2 dX11_countFaults_65 rfl rfl ?_
    refine J_iconst dX11_countFaults_66 ?_
    refine J_icmp_ge 148 dX11_countFaults_67 (by decide) (fun c => absurd c (by decide)) (fun c => ?_) (by decide)
    refine j_iload_n 2 dX11_countFaults_70 rfl rfl ?_
    refine J_iconst dX11_countFaults_71 ?_
    refine J_iadd dX11_countFaults_72 ?_
    refine j_istore_n 3 (L' := [(3, vI 1), (2, vI 0), (0, .ref a), (1, vI w)]) dX11_countFaults_73 rfl rfl rfl ?_
    refine j_iload_n 3 dX11_countFaults_74 rfl rfl ?_
    refine J_iconst dX11_countFaults_75 ?_
    refine J_icmp_ge 142 dX11_countFaults_76 (by decide) (fun c => absurd c (by decide)) (fun c => ?_) (by decide)
    refine cross 0 1 m _ _ _ (by decide) (by decide) hM2 hC (by omega) hF (fun q h hM2 hC hF => ?_)
    have hL := len_app hL (crs_len (hiM P m) (bgM P m) (momT P m) 0 1).1
    refine J_iinc (L' := [(3, vI 2), (2, vI 0), (0, .ref a), (1, vI w)]) dX11_countFaults_136 rfl rfl rfl ?_
    refine j_goto 74 dX11_countFaults_139 (by decide) ?_
    refine j_iload_n 3 dX11_countFaults_74 rfl rfl ?_
    refine J_iconst dX11_countFaults_75 ?_
    refine J_icmp_ge 142 dX11_countFaults_76 (by decide) (fun c => absurd c (by decide)) (fun c => ?_) (by decide)
    refine cross 0 2 m _ _ _ (by decide) (by decide) hM2 hC (by omega) hF (fun q h hM2 hC hF => ?_)
    have hL := len_app hL (crs_len (hiM P m) (bgM P m) (momT P m) 0 2).1
    refine J_iinc (L' := [(3, vI 3), (2, vI 0), (0, .ref a), (1, vI w)]) dX11_countFaults_136 rfl rfl rfl ?_
    refine j_goto 74 dX11_countFaults_139 (by decide) ?_
    refine j_iload_n 3 dX11_countFaults_74 rfl rfl ?_
    refine J_iconst dX11_countFaults_75 ?_
    refine J_icmp_ge 142 dX11_countFaults_76 (by decide) (fun c => absurd c (by decide)) (fun c => ?_) (by decide)
    refine cross 0 3 m _ _ _ (by decide) (by decide) hM2 hC (by omega) hF (fun q h hM2 hC hF => ?_)
    have hL := len_app hL (crs_len (hiM P m) (bgM P m) (momT P m) 0 3).1
    refine J_iinc (L' := [(3, vI 4), (2, vI 0), (0, .ref a), (1, vI w)]) dX11_countFaults_136 rfl rfl rfl ?_
    refine j_goto 74 dX11_countFaults_139 (by decide) ?_
    refine j_iload_n 3 dX11_countFaults_74 rfl rfl ?_
    refine J_iconst dX11_countFaults_75 ?_
    refine J_icmp_ge 142 dX11_countFaults_76 (by decide) (fun c => ?_) (fun c => absurd c (by decide)) (by decide)
    refine J_iinc (L' := [(2, vI 1), (3, vI 4), (0, .ref a), (1, vI w)]) dX11_countFaults_142 rfl rfl rfl ?_
    refine j_goto 65 dX11_countFaults_145 (by decide) ?_
    refine j_iload_n 2 dX11_countFaults_65 rfl rfl ?_
    refine J_iconst dX11_countFaults_66 ?_
    refine J_icmp_ge 148 dX11_countFaults_67 (by decide) (fun c => absurd c (by decide)) (fun c => ?_) (by decide)
    refine j_iload_n 2 dX11_countFaults_70 rfl rfl ?_
    refine J_iconst dX11_countFaults_71 ?_
    refine J_iadd dX11_countFaults_72 ?_
    refine j_istore_n 3 (L' := [(3, vI 2), (2, vI 1), (0, .ref a), (1, vI w)]) dX11_countFaults_73 rfl rfl rfl ?_
    refine j_iload_n 3 dX11_countFaults_74 rfl rfl ?_
    refine J_iconst dX11_countFaults_75 ?_
    refine J_icmp_ge 142 dX11_countFaults_76 (by decide) (fun c => absurd c (by decide)) (fun c => ?_) (by decide)
    refine cross 1 2 m _ _ _ (by decide) (by decide) hM2 hC (by omega) hF (fun q h hM2 hC hF => ?_)
    have hL := len_app hL (crs_len (hiM P m) (bgM P m) (momT P m) 1 2).1
    refine J_iinc (L' := [(3, vI 3), (2, vI 1), (0, .ref a), (1, vI w)]) dX11_countFaults_136 rfl rfl rfl ?_
    refine j_goto 74 dX11_countFaults_139 (by decide) ?_
    refine j_iload_n 3 dX11_countFaults_74 rfl rfl ?_
    refine J_iconst dX11_countFaults_75 ?_
    refine J_icmp_ge 142 dX11_countFaults_76 (by decide) (fun c => absurd c (by decide)) (fun c => ?_) (by decide)
    refine cross 1 3 m _ _ _ (by decide) (by decide) hM2 hC (by omega) hF (fun q h hM2 hC hF => ?_)
    have hL := len_app hL (crs_len (hiM P m) (bgM P m) (momT P m) 1 3).1
    refine J_iinc (L' := [(3, vI 4), (2, vI 1), (0, .ref a), (1, vI w)]) dX11_countFaults_136 rfl rfl rfl ?_
    refine j_goto 74 dX11_countFaults_139 (by decide) ?_
    refine j_iload_n 3 dX11_countFaults_74 rfl rfl ?_
    refine J_iconst dX11_countFaults_75 ?_
    refine J_icmp_ge 142 dX11_countFaults_76 (by decide) (fun c => ?_) (fun c => absurd c (by decide)) (by decide)
    refine J_iinc (L' := [(2, vI 2), (3, vI 4), (0, .ref a), (1, vI w)]) dX11_countFaults_142 rfl rfl rfl ?_
    refine j_goto 65 dX11_countFaults_145 (by decide) ?_
    refine j_iload_n 2 dX11_countFaults_65 rfl rfl ?_
    refine J_iconst dX11_countFaults_66 ?_
    refine J_icmp_ge 148 dX11_countFaults_67 (by decide) (fun c => absurd c (by decide)) (fun c => ?_) (by decide)
    refine j_iload_n 2 dX11_countFaults_70 rfl rfl ?_
    refine J_iconst dX11_countFaults_71 ?_
    refine J_iadd dX11_countFaults_72 ?_
    refine j_istore_n 3 (L' := [(3, vI 3), (2, vI 2), (0, .ref a), (1, vI w)]) dX11_countFaults_73 rfl rfl rfl ?_
    refine j_iload_n 3 dX11_countFaults_74 rfl rfl ?_
    refine J_iconst dX11_countFaults_75 ?_
    refine J_icmp_ge 142 dX11_countFaults_76 (by decide) (fun c => absurd c (by decide)) (fun c => ?_) (by decide)
    refine cross 2 3 m _ _ _ (by decide) (by decide) hM2 hC (by omega) hF (fun q h hM2 hC hF => ?_)
    have hL := len_app hL (crs_len (hiM P m) (bgM P m) (momT P m) 2 3).1
    refine J_iinc (L' := [(3, vI 4), (2, vI 2), (0, .ref a), (1, vI w)]) dX11_countFaults_136 rfl rfl rfl ?_
    refine j_goto 74 dX11_countFaults_139 (by decide) ?_
    refine j_iload_n 3 dX11_countFaults_74 rfl rfl ?_
    refine J_iconst dX11_countFaults_75 ?_
    refine J_icmp_ge 142 dX11_countFaults_76 (by decide) (fun c => ?_) (fun c => absurd c (by decide)) (by decide)
    refine J_iinc (L' := [(2, vI 3), (3, vI 4), (0, .ref a), (1, vI w)]) dX11_countFaults_142 rfl rfl rfl ?_
    refine j_goto 65 dX11_countFaults_145 (by decide) ?_
    refine j_iload_n 2 dX11_countFaults_65 rfl rfl ?_
    refine J_iconst dX11_countFaults_66 ?_
    refine J_icmp_ge 148 dX11_countFaults_67 (by decide) (fun c => absurd c (by decide)) (fun c => ?_) (by decide)
    refine j_iload_n 2 dX11_countFaults_70 rfl rfl ?_
    refine J_iconst dX11_countFaults_71 ?_
    refine J_iadd dX11_countFaults_72 ?_
    refine j_istore_n 3 (L' := [(3, vI 4), (2, vI 3), (0, .ref a), (1, vI w)]) dX11_countFaults_73 rfl rfl rfl ?_
    refine j_iload_n 3 dX11_countFaults_74 rfl rfl ?_
    refine J_iconst dX11_countFaults_75 ?_
    refine J_icmp_ge 142 dX11_countFaults_76 (by decide) (fun c => ?_) (fun c => absurd c (by decide)) (by decide)
    refine J_iinc (L' := [(2, vI 4), (3, vI 4), (0, .ref a), (1, vI w)]) dX11_countFaults_142 rfl rfl rfl ?_
    refine j_goto 65 dX11_countFaults_145 (by decide) ?_
    refine j_iload_n 2 dX11_countFaults_65 rfl rfl ?_
    refine J_iconst dX11_countFaults_66 ?_
    refine J_icmp_ge 148 dX11_countFaults_67 (by decide) (fun c => ?_) (fun c => absurd c (by decide)) (by decide)
    refine J_iconst dX11_countFaults_148 ?_
    refine j_istore_n 2 (L' := [(2, vI 0), (3, vI 4), (0, .ref a), (1, vI w)]) dX11_countFaults_149 rfl rfl rfl ?_
    have hP := hM2.1
    refine j_iload_n 2 dX11_countFaults_150 rfl rfl ?_
    refine J_iconst dX11_countFaults_151 ?_
    refine J_icmp_ge 166 dX11_countFaults_152 (by decide) (fun c => absurd c (by decide)) (fun c => ?_) (by decide)
    refine j_aload_n 0 dX11_countFaults_155 rfl rfl ?_
    refine j_iload_n 2 dX11_countFaults_156 rfl rfl ?_
    refine J_callVW0 kX11_297 cvX11_blamePart hP.1 (c_X11_blamePart hM2 hZ (hC.2.2.2.mi hI) hC.1 (k := 0) (by decide) hC.2.1 hw (by omega)) rfl rfl rfl rfl rfl dX11_countFaults_157 rfl rfl (fun h hp => ?_)
    obtain ⟨q, hM2, hS, hU, hF9⟩ := hp
    have hF := hF.tr hF9
    have hP := hM2.1
    have hC := hC.fu hU hS
    have hL := len_app hL (nte_len P m 0).1
    refine J_iinc (L' := [(2, vI 1), (3, vI 4), (0, .ref a), (1, vI w)]) dX11_countFaults_160 rfl rfl rfl ?_
    refine j_goto 150 dX11_countFaults_163 (by decide) ?_
    refine j_iload_n 2 dX11_countFaults_150 rfl rfl ?_
    refine J_iconst dX11_countFaults_151 ?_
    refine J_icmp_ge 166 dX11_countFaults_152 (by decide) (fun c => absurd c (by decide)) (fun c => ?_) (by decide)
    refine j_aload_n 0 dX11_countFaults_155 rfl rfl ?_
    refine j_iload_n 2 dX11_countFaults_156 rfl rfl ?_
    refine J_callVW0 kX11_297 cvX11_blamePart hP.1 (c_X11_blamePart hM2 hZ (hC.2.2.2.mi hI) hC.1 (k := 1) (by decide) hC.2.1 hw (by omega)) rfl rfl rfl rfl rfl dX11_countFaults_157 rfl rfl (fun h hp => ?_)
    obtain ⟨q, hM2, hS, hU, hF9⟩ := hp
    have hF := hF.tr hF9
    have hP := hM2.1
    have hC := hC.fu hU hS
    have hL := len_app hL (nte_len P m 1).1
    refine J_iinc (L' := [(2, vI 2), (3, vI 4), (0, .ref a), (1, vI w)]) dX11_countFaults_160 rfl rfl rfl ?_
    refine j_goto 150 dX11_countFaults_163 (by decide) ?_
    refine j_iload_n 2 dX11_countFaults_150 rfl rfl ?_
    refine J_iconst dX11_countFaults_151 ?_
    refine J_icmp_ge 166 dX11_countFaults_152 (by decide) (fun c => absurd c (by decide)) (fun c => ?_) (by decide)
    refine j_aload_n 0 dX11_countFaults_155 rfl rfl ?_
    refine j_iload_n 2 dX11_countFaults_156 rfl rfl ?_
    refine J_callVW0 kX11_297 cvX11_blamePart hP.1 (c_X11_blamePart hM2 hZ (hC.2.2.2.mi hI) hC.1 (k := 2) (by decide) hC.2.1 hw (by omega)) rfl rfl rfl rfl rfl dX11_countFaults_157 rfl rfl (fun h hp => ?_)
    obtain ⟨q, hM2, hS, hU, hF9⟩ := hp
    have hF := hF.tr hF9
    have hP := hM2.1
    have hC := hC.fu hU hS
    have hL := len_app hL (nte_len P m 2).1
    refine J_iinc (L' := [(2, vI 3), (3, vI 4), (0, .ref a), (1, vI w)]) dX11_countFaults_160 rfl rfl rfl ?_
    refine j_goto 150 dX11_countFaults_163 (by decide) ?_
    refine j_iload_n 2 dX11_countFaults_150 rfl rfl ?_
    refine J_iconst dX11_countFaults_151 ?_
    refine J_icmp_ge 166 dX11_countFaults_152 (by decide) (fun c => absurd c (by decide)) (fun c => ?_) (by decide)
    refine j_aload_n 0 dX11_countFaults_155 rfl rfl ?_
    refine j_iload_n 2 dX11_countFaults_156 rfl rfl ?_
    refine J_callVW0 kX11_297 cvX11_blamePart hP.1 (c_X11_blamePart hM2 hZ (hC.2.2.2.mi hI) hC.1 (k := 3) (by decide) hC.2.1 hw (by omega)) rfl rfl rfl rfl rfl dX11_countFaults_157 rfl rfl (fun h hp => ?_)
    obtain ⟨q, hM2, hS, hU, hF9⟩ := hp
    have hF := hF.tr hF9
    have hP := hM2.1
    have hC := hC.fu hU hS
    have hL := len_app hL (nte_len P m 3).1
    refine J_iinc (L' := [(2, vI 4), (3, vI 4), (0, .ref a), (1, vI w)]) dX11_countFaults_160 rfl rfl rfl ?_
    refine j_goto 150 dX11_countFaults_163 (by decide) ?_
    refine j_iload_n 2 dX11_countFaults_150 rfl rfl ?_
    refine J_iconst dX11_countFaults_151 ?_
    refine J_icmp_ge 166 dX11_countFaults_152 (by decide) (fun c => ?_) (fun c => absurd c (by decide)) (by decide)
    obtain ⟨hW, hS, hA, hK⟩ := hC
    have eL : ((((((((((((((((L ++ parL (hiA P m) (hiM P m) (wyM P m) (momT P m) 0 1) ++ parL (hiA P m) (hiM P m) (wyM P m) (momT P m) 0 2) ++ parL (hiA P m) (hiM P m) (wyM P m) (momT P m) 0 3) ++ parL (hiA P m) (hiM P m) (wyM P m) (momT P m) 1 2) ++ parL (hiA P m) (hiM P m) (wyM P m) (momT P m) 1 3) ++ parL (hiA P m) (hiM P m) (wyM P m) (momT P m) 2 3) ++ crsL (hiM P m) (bgM P m) (momT P m) 0 1) ++ crsL (hiM P m) (bgM P m) (momT P m) 0 2) ++ crsL (hiM P m) (bgM P m) (momT P m) 0 3) ++ crsL (hiM P m) (bgM P m) (momT P m) 1 2) ++ crsL (hiM P m) (bgM P m) (momT P m) 1 3) ++ crsL (hiM P m) (bgM P m) (momT P m) 2 3) ++ nteM P m 0) ++ nteM P m 1) ++ nteM P m 2) ++ nteM P m 3) = L ++ fauAt P m := by unfold fauAt prsL; simp only [List.append_assoc]
    rw [eL] at hS
    refine J_iconst dX11_countFaults_166 ?_
    refine j_istore_n 2 (L' := [(2, vI 0), (3, vI 4), (0, .ref a), (1, vI w)]) dX11_countFaults_167 rfl rfl rfl ?_
    refine j_iload_n 2 dX11_countFaults_168 rfl rfl ?_
    refine J_iconst dX11_countFaults_169 ?_
    refine J_icmp_ge 190 dX11_countFaults_170 (by decide) (fun c => absurd c (by decide)) (fun c => ?_) (by decide)
    refine j_aload_n 0 dX11_countFaults_173 rfl rfl ?_
    refine j_get fX11_68 dX11_countFaults_174 hP.1 rfl ?_
    refine j_iload_n 2 dX11_countFaults_177 rfl rfl ?_
    refine j_aload_n 0 dX11_countFaults_178 rfl rfl ?_
    refine j_iload_n 2 dX11_countFaults_179 rfl rfl ?_
    refine J_callV1 kX11_258 cvX11_soundsNow hP.1 (c_X11_soundsNow hM2 hZ (hK.mi hI) hW (k := 0) (by decide)) rfl rfl rfl rfl rfl dX11_countFaults_180 rfl rfl ?_
    refine J_iastA 18 hP rfl (fun _ => rfl) (fun _ => rfl) dX11_countFaults_183 (fun h hP hF183 => ?_) (by decide)
    have hM2 := hM2.w hZ hP hF183
    have hW := WS.a18 (F := upI (q.2 18) 0 (hiM P m 0)) hW
    have hK := KU.a18 (F := upI (q.2 18) 0 (hiM P m 0)) hK
    have hF := hF.tr (hF183.mono (fun _ q => Or.inl q))
    refine J_iinc (L' := [(2, vI 1), (3, vI 4), (0, .ref a), (1, vI w)]) dX11_countFaults_184 rfl rfl rfl ?_
    refine j_goto 168 dX11_countFaults_187 (by decide) ?_
    refine j_iload_n 2 dX11_countFaults_168 rfl rfl ?_
    refine J_iconst dX11_countFaults_169 ?_
    refine J_icmp_ge 190 dX11_countFaults_170 (by decide) (fun c => absurd c (by decide)) (fun c => ?_) (by decide)
    refine j_aload_n 0 dX11_countFaults_173 rfl rfl ?_
    refine j_get fX11_68 dX11_countFaults_174 hP.1 rfl ?_
    refine j_iload_n 2 dX11_countFaults_177 rfl rfl ?_
    refine j_aload_n 0 dX11_countFaults_178 rfl rfl ?_
    refine j_iload_n 2 dX11_countFaults_179 rfl rfl ?_
    refine J_callV1 kX11_258 cvX11_soundsNow hP.1 (c_X11_soundsNow hM2 hZ (hK.mi hI) hW (k := 1) (by decide)) rfl rfl rfl rfl rfl dX11_countFaults_180 rfl rfl ?_
    refine J_iastA 18 hP rfl (fun _ => rfl) (fun _ => rfl) dX11_countFaults_183 (fun h hP hF183 => ?_) (by decide)
    have hM2 := hM2.w hZ hP hF183
    have hW := WS.a18 (F := upI (upI (q.2 18) 0 (hiM P m 0)) 1 (hiM P m 1)) hW
    have hK := KU.a18 (F := upI (upI (q.2 18) 0 (hiM P m 0)) 1 (hiM P m 1)) hK
    have hF := hF.tr (hF183.mono (fun _ q => Or.inl q))
    refine J_iinc (L' := [(2, vI 2), (3, vI 4), (0, .ref a), (1, vI w)]) dX11_countFaults_184 rfl rfl rfl ?_
    refine j_goto 168 dX11_countFaults_187 (by decide) ?_
    refine j_iload_n 2 dX11_countFaults_168 rfl rfl ?_
    refine J_iconst dX11_countFaults_169 ?_
    refine J_icmp_ge 190 dX11_countFaults_170 (by decide) (fun c => absurd c (by decide)) (fun c => ?_) (by decide)
    refine j_aload_n 0 dX11_countFaults_173 rfl rfl ?_
    refine j_get fX11_68 dX11_countFaults_174 hP.1 rfl ?_
    refine j_iload_n 2 dX11_countFaults_177 rfl rfl ?_
    refine j_aload_n 0 dX11_countFaults_178 rfl rfl ?_
    refine j_iload_n 2 dX11_countFaults_179 rfl rfl ?_
    refine J_callV1 kX11_258 cvX11_soundsNow hP.1 (c_X11_soundsNow hM2 hZ (hK.mi hI) hW (k := 2) (by decide)) rfl rfl rfl rfl rfl dX11_countFaults_180 rfl rfl ?_
    refine J_iastA 18 hP rfl (fun _ => rfl) (fun _ => rfl) dX11_countFaults_183 (fun h hP hF183 => ?_) (by decide)
    have hM2 := hM2.w hZ hP hF183
    have hW := WS.a18 (F := upI (upI (upI (q.2 18) 0 (hiM P m 0)) 1 (hiM P m 1)) 2 (hiM P m 2)) hW
    have hK := KU.a18 (F := upI (upI (upI (q.2 18) 0 (hiM P m 0)) 1 (hiM P m 1)) 2 (hiM P m 2)) hK
    have hF := hF.tr (hF183.mono (fun _ q => Or.inl q))
    refine J_iinc (L' := [(2, vI 3), (3, vI 4), (0, .ref a), (1, vI w)]) dX11_countFaults_184 rfl rfl rfl ?_
    refine j_goto 168 dX11_countFaults_187 (by decide) ?_
    refine j_iload_n 2 dX11_countFaults_168 rfl rfl ?_
    refine J_iconst dX11_countFaults_169 ?_
    refine J_icmp_ge 190 dX11_countFaults_170 (by decide) (fun c => absurd c (by decide)) (fun c => ?_) (by decide)
    refine j_aload_n 0 dX11_countFaults_173 rfl rfl ?_
    refine j_get fX11_68 dX11_countFaults_174 hP.1 rfl ?_
    refine j_iload_n 2 dX11_countFaults_177 rfl rfl ?_
    refine j_aload_n 0 dX11_countFaults_178 rfl rfl ?_
    refine j_iload_n 2 dX11_countFaults_179 rfl rfl ?_
    refine J_callV1 kX11_258 cvX11_soundsNow hP.1 (c_X11_soundsNow hM2 hZ (hK.mi hI) hW (k := 3) (by decide)) rfl rfl rfl rfl rfl dX11_countFaults_180 rfl rfl ?_
    refine J_iastA 18 hP rfl (fun _ => rfl) (fun _ => rfl) dX11_countFaults_183 (fun h hP hF183 => ?_) (by decide)
    have hM2 := hM2.w hZ hP hF183
    have hW := WS.a18 (F := upI (upI (upI (upI (q.2 18) 0 (hiM P m 0)) 1 (hiM P m 1)) 2 (hiM P m 2)) 3 (hiM P m 3)) hW
    have hK := KU.a18 (F := upI (upI (upI (upI (q.2 18) 0 (hiM P m 0)) 1 (hiM P m 1)) 2 (hiM P m 2)) 3 (hiM P m 3)) hK
    have hF := hF.tr (hF183.mono (fun _ q => Or.inl q))
    refine J_iinc (L' := [(2, vI 4), (3, vI 4), (0, .ref a), (1, vI w)]) dX11_countFaults_184 rfl rfl rfl ?_
    refine j_goto 168 dX11_countFaults_187 (by decide) ?_
    refine j_iload_n 2 dX11_countFaults_168 rfl rfl ?_
    refine J_iconst dX11_countFaults_169 ?_
    refine J_icmp_ge 190 dX11_countFaults_170 (by decide) (fun c => ?_) (fun c => absurd c (by decide)) (by decide)
    refine j_goto 22 dX11_countFaults_190 (by decide) ?_
    exact j_locR (kk _ _ hM2 hW (FS.a18 (FS.a18 (FS.a18 (FS.a18 hS)))) (ah4 _) hK hF) (by repeat' (first | exact True.intro | refine And.intro rfl ?_))
  have loop : ∀ (n m : Nat) (q : OS) (h2 : jH), m + n = cntM P → Mod G h2 a d mp q → WS P m q → FS w (fauL P m) q → (∀ k : Int, 0 ≤ k ∧ k < 4 → q.2 18 k = hiA P m k) → KU p q → Fr (FtM a d) h h2 → J l G mX11_countFaults (jQ G mX11_countFaults (jW (oI ((fauA P).length : Int)) (fun h' => ∃ p', Mod G h' a d mp p' ∧ FS w (fauA P) p' ∧ KU p p' ∧ Fr (FtM a d) h h'))) 0 0 22 [(0, .ref a), (1, vI w)] [] h2 := by
    intro n
    induction n with
    | zero =>
      intro m q h2 hm hM2 hW hS hA hK hF
      have hP := hM2.1
      have hend := cntM_end hs hI.1.2.1
      obtain rfl : m = cntM P := by omega
      refine j_aload_n 0 dX11_countFaults_22 rfl rfl ?_
      refine J_callV1 kX11_248 cvX11_walk hP.1 (c0_X11_walk hM2 hZ (hK.mi hI) hW hend) rfl rfl rfl rfl rfl dX11_countFaults_23 rfl rfl ?_
      refine J_if_eq 193 dX11_countFaults_26 (by decide) (fun c26 => ?_) (fun c26 => absurd c26 (by decide)) 
      refine j_aload_n 0 dX11_countFaults_193 rfl rfl ?_
      refine j_get fX11_273 dX11_countFaults_194 hP.1 rfl ?_
      refine j_iret rfl dX11_countFaults_197 ?_
      exact ⟨oIe hS.2.1, q, hM2, hS, hK, hF⟩
    | succ n ih =>
      intro m q h2 hm hM2 hW hS hA hK hF
      have hP := hM2.1
      have hne := cntM_pos (P := P) (j := m) (by omega)
      have hlen : (fauL P m).length ≤ 2560 := Nat.le_trans (fauL_mono P (cntM P) m (by omega)) (fauA_len hs hI.1.2.1)
      refine j_aload_n 0 dX11_countFaults_22 rfl rfl ?_
      refine J_callVW1 kX11_248 cvX11_walk hP.1 (c1_X11_walk hM2 hZ (hK.mi hI) hW hne) rfl rfl rfl rfl rfl dX11_countFaults_23 rfl rfl (fun h hp => ?_)
      obtain ⟨q1, hM3, hW3, hU3, hF9⟩ := hp
      have hF := hF.tr hF9
      refine J_if_eq 193 dX11_countFaults_26 (by decide) (fun c26 => absurd c26 (by decide)) (fun c26 => ?_) 
      refine moment m q1 _ (fauL P m) hM3 ⟨hW3, hS.wu hU3, fun k hk => ?_, hK.tr hU3.ku⟩ hlen hF (fun q' h3 hM4 hW4 hS4 hA4 hK4 hF4 => ?_)
      · rw [hU3.2 18 (by decide) (by decide)]; exact hA k hk
      · exact j_locR (ih (m + 1) q' h3 (by omega) hM4 hW4 hS4 hA4 hK4 hF4) (by repeat' (first | exact True.intro | refine And.intro rfl ?_))
  refine j_body (by decide +kernel) ⟨rfl, rfl⟩ rfl ?_
  have hP := hM.1
  have hF : Fr (FtM a d) h h := Fr.rf
  refine j_aload_n 0 dX11_countFaults_0 rfl rfl ?_
  refine j_iload_n 1 dX11_countFaults_1 rfl rfl ?_
  refine J_putA hP fX11_276 tyX11_wanted dX11_countFaults_2 rfl rfl (fun h hP hF2 => ?_)
  have hM := hM.w hZ hP hF2
  have hF := hF.tr (hF2.mono (fun _ q => Or.inl q))
  refine j_aload_n 0 dX11_countFaults_5 rfl rfl ?_
  refine J_iconst dX11_countFaults_6 ?_
  refine J_putA hP fX11_273 tyX11_counted dX11_countFaults_7 rfl rfl (fun h hP hF7 => ?_)
  have hM := hM.w hZ hP hF7
  have hF := hF.tr (hF7.mono (fun _ q => Or.inl q))
  refine j_aload_n 0 dX11_countFaults_10 rfl rfl ?_
  refine J_callVW0 kX11_245 cvX11_beginWalk hP.1 (c_X11_beginWalk hM hZ hI) rfl rfl rfl rfl rfl dX11_countFaults_11 rfl rfl (fun h hp => ?_)
  obtain ⟨p1, hM, hW1, hU1, hF9⟩ := hp
  have hF := hF.tr hF9
  have hP := hM.1
  refine j_aload_n 0 dX11_countFaults_14 rfl rfl ?_
  refine j_get fX11_68 dX11_countFaults_15 hP.1 rfl ?_
  refine J_iconst dX11_countFaults_18 ?_
  refine J_callSW0 kX11_81 csJ7_fill_53178 (c_J7_fill_53178 (hP.2.1 18 rfl) (by decide)) rfl rfl rfl rfl rfl dX11_countFaults_19 rfl rfl (fun h hp => ?_)
  subst hp
  have hP2 := hP.arrw (k := 18) rfl (rng (p1.2 18) 0 4 (-1)) rfl
  have hF18 : Fr (ft AX11 a d.q) h (hset h (d.q 18) (caX11 G 18 (rng (p1.2 18) 0 4 (-1)))) := Fr.set (Or.inr ⟨18, rfl, rfl⟩)
  have hM := hM.w hZ hP2 hF18
  have hF := hF.tr (hF18.mono (fun _ q => Or.inl q))
  exact j_locR (loop (cntM P) 0 _ _ (by omega) hM (WS.a18 hW1) (FS.a18 (FS.wu ⟨rfl, rfl, fun x h0 hx => by cases hx⟩ hU1)) (fun k hk => by show rng (p1.2 18) 0 4 (-1) k = -1; unfold rng; exact if_pos hk) (KU.a18 (KU.tr ⟨rfl, rfl, rfl, rfl, rfl⟩ hU1.ku)) hF) (by repeat' (first | exact True.intro | refine And.intro rfl ?_))
