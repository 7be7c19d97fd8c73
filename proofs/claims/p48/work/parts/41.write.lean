def evW (p6 : OS) (fr to : Int) : Nat → Int → OS → OS
  | 0, _, p => p
  | n + 1, e, p => if p6.2 3 e < to then evW p6 fr to n (e + 1) (strP e (min to (endF p6 e)) 128 (max fr (p6.2 3 e)) p) else p
def sgQ (p6 : OS) (fr to : Int) (p : OS) : Prop := mN p ∧ ∀ j : Int, 0 ≤ j → j < p.1 9 → inP p6 (p.2 0 j) ∧ (fr ≤ p.2 1 j ∧ p.2 1 j < to) ∧ (1 ≤ p.2 2 j ∧ p.2 2 j ≤ 96)
theorem sgQ_sgn {p6 : OS} {fr to : Int} {p : OS} {e t le : Int} (h : sgQ p6 fr to p) (he : inP p6 e) (ht : fr ≤ t ∧ t < to) (hl : 1 ≤ le ∧ le ≤ 96) : sgQ p6 fr to (sgnP p e t le) := by
  refine ⟨mN_sgn h.1, ?_⟩
  unfold sgnP
  split
  · intro j h0 h1
    have h1' : j < p.1 9 + 1 := h1
    show inP p6 (upI (p.2 0) (p.1 9) e j) ∧ (fr ≤ upI (p.2 1) (p.1 9) t j ∧ upI (p.2 1) (p.1 9) t j < to) ∧ (1 ≤ upI (p.2 2) (p.1 9) le j ∧ upI (p.2 2) (p.1 9) le j ≤ 96)
    by_cases c : j = p.1 9
    · subst c
      rw [upI_s, upI_s, upI_s]
      exact ⟨he, ht, hl⟩
    · rw [upI_n c, upI_n c, upI_n c]
      exact h.2 j h0 (by omega)
  · exact h.2
theorem sgQ_str {p6 : OS} {fr to e to2 : Int} (he : inP p6 e) (h2 : to2 ≤ to) : ∀ (n : Nat) (t : Int) (p : OS), fr ≤ t → sgQ p6 fr to p → sgQ p6 fr to (strP e to2 n t p)
  | 0, _, _, _, h => h
  | n + 1, t, p, ht, h => by
    unfold strP
    split
    · rename_i c
      have g := great_rg (to2 - t) (by omega)
      exact sgQ_str he h2 n _ _ (by omega) (sgQ_sgn h he ⟨ht, by omega⟩ ⟨by omega, g.2.2⟩)
    · exact h
theorem sgQ_ev {p6 : OS} {fr to : Int} : ∀ (n : Nat) (e : Int) (p : OS), 0 ≤ e → e + n ≤ p6.1 7 → sgQ p6 fr to p → sgQ p6 fr to (evW p6 fr to n e p)
  | 0, _, _, _, _, h => h
  | n + 1, e, p, h0, h1, h => by
    unfold evW
    split
    · exact sgQ_ev n _ _ (by omega) (by omega) (sgQ_str ⟨h0, by omega⟩ (by omega) 128 _ _ (by omega) h)
    · exact h
def showP (i fp fa : Nat) (p6 : OS) (key : Int) (p : OS) : OS := oA (oA p 8 (shN (p.2 3) (fun j => p6.2 fp (p.2 0 j)) (fun j => p6.2 fa (p.2 0 j)) key (F0X (p.2 8)) (p.2 i) (p.1 9).toNat).1) i (shN (p.2 3) (fun j => p6.2 fp (p.2 0 j)) (fun j => p6.2 fa (p.2 0 j)) key (F0X (p.2 8)) (p.2 i) (p.1 9).toNat).2
def glF (p0 : OS) (b : Int) : Int := if p0.2 1 b = 8 ∧ (p0.2 0 b).tmod 3 = 0 then 24 else if p0.2 1 b = 2 then 32 else 16
def kwF (p6 : OS) (k : Int) : Int := if 7 < k + p6.1 11 then k + p6.1 11 - 12 else if k + p6.1 11 < -7 then k + p6.1 11 + 12 else k + p6.1 11
def wr1 (p6 p0 : OS) (b : Int) (p : OS) : OS := evW p6 (sumN (p0.2 2) b.toNat) (sumN (p0.2 2) b.toNat + p0.2 2 b) (p6.1 7 - febF (endF p6) (sumN (p0.2 2) b.toNat) (p6.1 7).toNat).toNat (febF (endF p6) (sumN (p0.2 2) b.toNat) (p6.1 7).toNat) (oU p 9 0)
def wr2 (p6 p0 : OS) (s : OS) : OS := mkP p6 (p0.1 4) s (s.1 9)
def wr3 (p6 p0 : OS) (b : Int) (s : OS) : OS := bmP (grpG p6 s (sumN (p0.2 2) b.toNat) (glF p0 b)) s (s.1 9).toNat
def wrP (p6 p0 : OS) (b : Int) (p : OS) : OS := showP 6 5 6 p6 (kwF p6 (p0.2 3 b)) (showP 5 0 1 p6 (p0.2 3 b) (wr3 p6 p0 b (wr2 p6 p0 (wr1 p6 p0 b p))))
theorem sgZ_of {p6 p : OS} {fr to : Int} (h : sgQ p6 fr to p) (h0 : 0 ≤ fr) (h1 : to ≤ 20000) : sgZ p6 p := fun j a b => by
  have := h.2 j a b
  exact ⟨this.1, by omega, by omega⟩
/-- what the laying of signs wants of the calendar -/
def calZ (p0 : OS) : Prop := lenZ (p0.2 2) ∧ (0 ≤ p0.1 4 ∧ p0.1 4 ≤ 20000) ∧ ∀ b : Int, isBar b → ((1 ≤ p0.2 0 b ∧ p0.2 0 b ≤ 12) ∧ (p0.2 1 b = 2 ∨ p0.2 1 b = 4 ∨ p0.2 1 b = 8)) ∧ (-7 ≤ p0.2 3 b ∧ p0.2 3 b ≤ 7)
theorem mN_str {e to : Int} : ∀ (n : Nat) (t : Int) (p : OS), mN p → mN (strP e to n t p)
  | 0, _, _, h => h
  | n + 1, t, p, h => by
    unfold strP
    split
    · exact mN_str n _ _ (mN_sgn h)
    · exact h
set_option maxRecDepth 100000 in
theorem c_X5_write {l : Launch} {G : jG} {h : jH} {a : Nat} {q : Nat → Nat} {p : OS} {a6 : Nat} {q6 : Nat → Nat} {p6 : OS} {a0 : Nat} {q0 : Nat → Nat} {p0 : OS} {bar : Int} (hP : AtX5 G h a q p) (hP6 : AtX6 G h a6 q6 p6) (hn6 : pN p6) (hz6 : eA p6) (hzz : pZ p6) (hm : monE (endF p6) (p6.1 7)) (hP0 : AtX0 G h a0 q0 p0) (hC : calZ p0) (hd : ∀ b, ft AX6 a6 q6 b → ¬ ft AX5 a q b) (hd0 : ∀ b, ft AX0 a0 q0 b → ¬ ft AX5 a q b) (hb : isBar bar) : jC l G yX5_write mX5_write [.ref a, .ref a6, .ref a0, vI bar] h (jW oN (fun h' => AtX5 G h' a q (wrP p6 p0 bar p) ∧ Fr (ft AX5 a q) h h')) := by
  have hn62 : 0 ≤ p6.1 7 ∧ p6.1 7 ≤ 512 := hn6
  have hL := lenZ_sum hC.1 bar.toNat (by omega)
  have hLb := hC.1 bar hb.1 hb.2
  have hCb := hC.2.2 bar hb
  have hse := hC.2.1
  have hfe := febF_rg (endF p6) (sumN (p0.2 2) bar.toNat) (p6.1 7).toNat
  obtain ⟨s1, hs1⟩ : ∃ s1, s1 = wr1 p6 p0 bar p := ⟨_, rfl⟩
  have hq1 : sgQ p6 (sumN (p0.2 2) bar.toNat) (sumN (p0.2 2) bar.toNat + p0.2 2 bar) s1 := by
    rw [hs1]
    exact sgQ_ev _ _ _ (by omega) (by omega) ⟨⟨Int.le_refl _, by show (0 : Int) ≤ 128; omega⟩, fun j h0 h1 => absurd (show j < 0 from h1) (by omega)⟩
  have hwr : wrP p6 p0 bar p = showP 6 5 6 p6 (kwF p6 (p0.2 3 bar)) (showP 5 0 1 p6 (p0.2 3 bar) (wr3 p6 p0 bar (wr2 p6 p0 s1))) := by rw [hs1]; rfl
  unfold wr1 at hs1
  rw [hwr]
  obtain ⟨fr, hfr⟩ : ∃ fr, fr = sumN (p0.2 2) bar.toNat := ⟨_, rfl⟩
  rw [← hfr] at hs1 hq1 hL hfe
  have K88 : ∀ h2 e, AtX5 G h2 a q s1 → Fr (ft AX5 a q) h h2 → AtX6 G h2 a6 q6 p6 → AtX0 G h2 a0 q0 p0 → J l G mX5_write (jQ G mX5_write (jW oN (fun h' => AtX5 G h' a q (showP 6 5 6 p6 (kwF p6 (p0.2 3 bar)) (showP 5 0 1 p6 (p0.2 3 bar) (wr3 p6 p0 bar (wr2 p6 p0 s1)))) ∧ Fr (ft AX5 a q) h h'))) 0 0 88 [(6, vI e), (5, vI (fr + p0.2 2 bar)), (4, vI fr), (0, .ref a), (1, .ref a6), (2, .ref a0), (3, vI bar)] [] h2 := by
    intro h2 e hP hF hP6 hP0
    have hz1 := sgZ_of hq1 (by omega) (by omega)
    have hbf := bmP_f (grpG p6 (wr2 p6 p0 s1) fr (glF p0 bar)) (wr2 p6 p0 s1) ((wr2 p6 p0 s1).1 9).toNat
    have hwe : wr3 p6 p0 bar (wr2 p6 p0 s1) = bmP (grpG p6 (wr2 p6 p0 s1) fr (glF p0 bar)) (wr2 p6 p0 s1) ((wr2 p6 p0 s1).1 9).toNat := by rw [hfr]; rfl
    rw [← hwe] at hbf
    have hf3 : ∀ j : Int, 0 ≤ j → j < s1.1 9 → (wr2 p6 p0 s1).2 3 j = 0 ∨ (wr2 p6 p0 s1).2 3 j = 1 := fun j h0 h1 => by
      show mapI (s1.2 3) (s1.1 9) (fstG p6 s1) j = 0 ∨ mapI (s1.2 3) (s1.1 9) (fstG p6 s1) j = 1
      unfold mapI
      rw [if_pos ⟨h0, h1⟩]
      exact bI_01 _
    have hz3 : sgZ p6 (wr3 p6 p0 bar (wr2 p6 p0 s1)) := fun j h0 h1 => by
      rw [hbf.2 0 (by decide), hbf.2 1 (by decide), hbf.2 2 (by decide)]
      exact hz1 j h0 (by rw [hbf.1] at h1; exact h1)
    have hn3 : mN (wr3 p6 p0 bar (wr2 p6 p0 s1)) := by
      unfold mN
      rw [hbf.1]
      exact hq1.1
    have hb3 : ∀ j : Int, 0 ≤ j → j < (wr3 p6 p0 bar (wr2 p6 p0 s1)).1 9 → (wr3 p6 p0 bar (wr2 p6 p0 s1)).2 3 j = 0 ∨ (wr3 p6 p0 bar (wr2 p6 p0 s1)).2 3 j = 1 := fun j h0 h1 => by
      rw [hbf.2 3 (by decide)]
      exact hf3 j h0 (by rw [hbf.1] at h1; exact h1)
    have hgl : glF p0 bar = 16 ∨ glF p0 bar = 24 ∨ glF p0 bar = 32 := by unfold glF; repeat' split; all_goals omega
    have hkw : -7 ≤ kwF p6 (p0.2 3 bar) ∧ kwF p6 (p0.2 3 bar) ≤ 7 := by
      have := hzz.2.1
      unfold kwF
      repeat' split
      all_goals omega
    refine j_aload_n 0 dX5_write_88 rfl rfl ?_
    refine j_aload_n 1 dX5_write_89 rfl rfl ?_
    refine j_aload_n 2 dX5_write_90 rfl rfl ?_
    refine J_callV1 kX5_86 cvX0_end hP0.1 (c_X0_end hP0) rfl rfl rfl rfl rfl dX5_write_91 rfl rfl ?_
    refine J_callVW0 kX5_89 cvX5_markSigns hP.1 (c_X5_markSigns hP hq1.1 hz1 hP6 hn6 hz6 hd hse) rfl rfl rfl rfl rfl dX5_write_94 rfl rfl (fun h hp => ?_)
    obtain ⟨hP, hF9⟩ := hp
    have hF := hF.tr hF9
    have hP6 := hP6.keep hF9 hd
    have hP0 := hP0.keep hF9 hd0
    refine j_aload_n 0 dX5_write_97 rfl rfl ?_
    refine j_aload_n 1 dX5_write_98 rfl rfl ?_
    refine j_iload dX5_write_99 rfl ?_
    refine j_aload_n 2 dX5_write_101 rfl rfl ?_
    refine j_iload_n 3 dX5_write_102 rfl rfl ?_
    refine J_callV1 kX5_93 cvX0_groupLengthAt hP0.1 (c_X0_groupLengthAt hP0 (by omega) (fun _ => hCb.1)) rfl rfl rfl rfl rfl dX5_write_103 rfl rfl ?_
    refine J_top (glF p0 bar) ?_ (by exact if_pos hb)
    refine J_callVW0 kX5_96 cvX5_beamSigns hP.1 (c_X5_beamSigns (p := wr2 p6 p0 s1) hP hq1.1 hz1 hgl (by omega) (fun j h0 h1 => (hq1.2 j h0 h1).2.1.1) hP6 hn6 hz6 hd) rfl rfl rfl rfl rfl dX5_write_106 rfl rfl (fun h hp => ?_)
    obtain ⟨hP, hF9⟩ := hp
    have hF := hF.tr hF9
    have hP6 := hP6.keep hF9 hd
    have hP0 := hP0.keep hF9 hd0
    rw [← hwe] at hP
    refine j_aload_n 0 dX5_write_109 rfl rfl ?_
    refine j_aload_n 1 dX5_write_110 rfl rfl ?_
    refine j_aload_n 2 dX5_write_111 rfl rfl ?_
    refine j_iload_n 3 dX5_write_112 rfl rfl ?_
    refine J_callV1 kX5_100 cvX0_keyAt hP0.1 (c_X0_keyAt hP0 (by omega)) rfl rfl rfl rfl rfl dX5_write_113 rfl rfl ?_
    refine J_top (p0.2 3 bar) ?_ (by exact if_pos hb)
    refine J_callVW0 kX5_103 cvX5_showAlters hP.1 (c_X5_showAlters hP hn3 hz3 hb3 hP6 hn6 hz6 hd hCb.2) rfl rfl rfl rfl rfl dX5_write_116 rfl rfl (fun h hp => ?_)
    obtain ⟨hP, hF9⟩ := hp
    have hF := hF.tr hF9
    have hP6 := hP6.keep hF9 hd
    have hP0 := hP0.keep hF9 hd0
    refine j_aload_n 0 dX5_write_119 rfl rfl ?_
    refine j_aload_n 1 dX5_write_120 rfl rfl ?_
    refine j_aload_n 1 dX5_write_121 rfl rfl ?_
    refine j_aload_n 2 dX5_write_122 rfl rfl ?_
    refine j_iload_n 3 dX5_write_123 rfl rfl ?_
    refine J_callV1 kX5_100 cvX0_keyAt hP0.1 (c_X0_keyAt hP0 (by omega)) rfl rfl rfl rfl rfl dX5_write_124 rfl rfl ?_
    refine J_top (p0.2 3 bar) ?_ (by exact if_pos hb)
    refine J_callV1 kX5_106 cvX6_keyAsWritten hP6.1 (c_X6_keyAsWritten hP6 hzz hCb.2) rfl rfl rfl rfl rfl dX5_write_127 rfl rfl ?_
    refine J_top (kwF p6 (p0.2 3 bar)) ?_ (by rfl)
    refine J_callVW0 kX5_109 cvX5_showAltersAsWritten hP.1 (c_X5_showAltersAsWritten (p := showP 5 0 1 p6 (p0.2 3 bar) (wr3 p6 p0 bar (wr2 p6 p0 s1))) hP hn3 hz3 hb3 hP6 hn6 hz6 hd hkw) rfl rfl rfl rfl rfl dX5_write_130 rfl rfl (fun h hp => ?_)
    obtain ⟨hP, hF9⟩ := hp
    have hF := hF.tr hF9
    have hP6 := hP6.keep hF9 hd
    have hP0 := hP0.keep hF9 hd0
    refine j_vret rfl dX5_write_133 ?_
    exact ⟨rfl, hP, hF⟩
  have loop : ∀ (n : Nat) (e : Int) (p2 : OS) (h2 : jH), e + n = p6.1 7 → 0 ≤ e → mN p2 → AtX5 G h2 a q p2 → Fr (ft AX5 a q) h h2 → AtX6 G h2 a6 q6 p6 → AtX0 G h2 a0 q0 p0 → evW p6 fr (fr + p0.2 2 bar) n e p2 = s1 → J l G mX5_write (jQ G mX5_write (jW oN (fun h' => AtX5 G h' a q (showP 6 5 6 p6 (kwF p6 (p0.2 3 bar)) (showP 5 0 1 p6 (p0.2 3 bar) (wr3 p6 p0 bar (wr2 p6 p0 s1)))) ∧ Fr (ft AX5 a q) h h'))) 0 0 30 [(6, vI e), (5, vI (fr + p0.2 2 bar)), (4, vI fr), (0, .ref a), (1, .ref a6), (2, .ref a0), (3, vI bar)] [] h2 := by
    intro n
    induction n with
    | zero =>
      intro e p2 h2 he h0 hn hP hF hP6 hP0 hr
      refine j_iload dX5_write_30 rfl ?_
      refine j_aload_n 1 dX5_write_32 rfl rfl ?_
      refine J_callV1 kX5_65 cvX6_size hP6.1 (c_X6_size hP6) rfl rfl rfl rfl rfl dX5_write_33 rfl rfl ?_
      refine J_icmp_ge 88 dX5_write_36 (by decide) (fun c36 => ?_) (fun c36 => absurd c36 (by omega)) 
      exact K88 h2 e (hr ▸ hP) hF hP6 hP0
    | succ n ih =>
      intro e p2 h2 he h0 hn hP hF hP6 hP0 hr
      have hez := hz6 e h0 (by omega)
      have hb3 := hez.2.2.2.1
      have hb4 := hez.2.2.2.2.1
      have hre : endF p6 e = p6.2 3 e + p6.2 4 e := rfl
      have hin : inP p6 e := ⟨h0, by omega⟩
      unfold evW at hr
      refine j_iload dX5_write_30 rfl ?_
      refine j_aload_n 1 dX5_write_32 rfl rfl ?_
      refine J_callV1 kX5_65 cvX6_size hP6.1 (c_X6_size hP6) rfl rfl rfl rfl rfl dX5_write_33 rfl rfl ?_
      refine J_icmp_ge 88 dX5_write_36 (by decide) (fun c36 => absurd c36 (by omega)) (fun c36 => ?_) 
      refine j_aload_n 1 dX5_write_39 rfl rfl ?_
      refine j_iload dX5_write_40 rfl ?_
      refine J_callV1 kX5_69 cvX6_beginAt hP6.1 (c_X6_beginAt hP6 hn6 (by omega)) rfl rfl rfl rfl rfl dX5_write_42 rfl rfl ?_
      refine J_top (p6.2 3 e) ?_ (by exact if_pos hin)
      refine j_iload dX5_write_45 rfl ?_
      refine J_icmp_ge 88 dX5_write_47 (by decide) (fun c47 => ?_) (fun c47 => ?_) 
      · rw [if_neg (by omega)] at hr
        exact K88 h2 e (hr ▸ hP) hF hP6 hP0
      · refine j_iload dX5_write_50 rfl ?_
        refine j_aload_n 1 dX5_write_52 rfl rfl ?_
        refine j_iload dX5_write_53 rfl ?_
        refine J_callV1 kX5_70 cvX6_endAt hP6.1 (c_X6_endAt hP6 hn6 (by omega)) rfl rfl rfl rfl rfl dX5_write_55 rfl rfl ?_
        refine J_top (endF p6 e) ?_ (by exact if_pos hin)
        refine J_mmin kX5_73 rfl rfl dX5_write_58 ?_ 
        refine j_istore (L' := [(7, _), (6, _), (5, _), (4, _), (0, _), (1, _), (2, _), (3, _)]) dX5_write_61 rfl rfl ?_
        refine j_aload_n 0 dX5_write_63 rfl rfl ?_
        refine j_iload dX5_write_64 rfl ?_
        refine j_iload dX5_write_66 rfl ?_
        refine j_aload_n 1 dX5_write_68 rfl rfl ?_
        refine j_iload dX5_write_69 rfl ?_
        refine J_callV1 kX5_69 cvX6_beginAt hP6.1 (c_X6_beginAt hP6 hn6 (by omega)) rfl rfl rfl rfl rfl dX5_write_71 rfl rfl ?_
        refine J_top (p6.2 3 e) ?_ (by exact if_pos hin)
        refine J_mmax kX5_79 rfl rfl dX5_write_74 ?_ 
        refine j_iload dX5_write_77 rfl ?_
        refine J_callVW0 kX5_82 cvX5_writeStretch hP.1 (c_X5_writeStretch hP hn (by omega) (by omega)) rfl rfl rfl rfl rfl dX5_write_79 rfl rfl (fun h hp => ?_)
        obtain ⟨hP, hF9⟩ := hp
        have hF := hF.tr hF9
        have hP6 := hP6.keep hF9 hd
        have hP0 := hP0.keep hF9 hd0
        refine J_iinc (L' := [(6, _), (7, _), (5, _), (4, _), (0, _), (1, _), (2, _), (3, _)]) dX5_write_82 rfl rfl rfl ?_
        refine j_goto 30 dX5_write_85 (by decide) ?_
        rw [if_pos c47] at hr
        exact j_locR (ih (e + 1) _ _ (by omega) (by omega) (mN_str 128 _ _ hn) hP hF hP6 hP0 hr) (by repeat' (first | exact True.intro | refine And.intro rfl ?_))
  refine j_body (by decide +kernel) ⟨rfl, rfl⟩ rfl ?_
  have hF : Fr (ft AX5 a q) h h := Fr.rf
  refine j_aload_n 2 dX5_write_0 rfl rfl ?_
  refine j_iload_n 3 dX5_write_1 rfl rfl ?_
  refine J_callV1 kX5_51 cvX0_beginAt hP0.1 (c_X0_beginAt hP0 (by omega)) rfl rfl rfl rfl rfl dX5_write_2 rfl rfl ?_
  refine J_top (fr) ?_ (by (rw [hfr, show (min bar 24).toNat = bar.toNat by omega]))
  refine j_istore (L' := [(4, _), (0, _), (1, _), (2, _), (3, _)]) dX5_write_5 rfl rfl ?_
  refine j_iload dX5_write_7 rfl ?_
  refine j_aload_n 2 dX5_write_9 rfl rfl ?_
  refine j_iload_n 3 dX5_write_10 rfl rfl ?_
  refine J_callV1 kX5_57 cvX0_lengthAt hP0.1 (c_X0_lengthAt hP0 (by omega)) rfl rfl rfl rfl rfl dX5_write_11 rfl rfl ?_
  refine J_top (p0.2 2 bar) ?_ (by exact if_pos hb)
  refine J_iadd dX5_write_14 ?_
  refine j_istore (L' := [(5, _), (4, _), (0, _), (1, _), (2, _), (3, _)]) dX5_write_15 rfl rfl ?_
  refine j_aload_n 0 dX5_write_17 rfl rfl ?_
  refine J_iconst dX5_write_18 ?_
  refine J_putA hP fX5_40 tyX5_count dX5_write_19 rfl rfl (fun h hP hF19 => ?_)
  have hF := hF.tr hF19
  have hP6 := hP6.keep hF19 hd
  have hP0 := hP0.keep hF19 hd0
  refine j_aload_n 1 dX5_write_22 rfl rfl ?_
  refine j_iload dX5_write_23 rfl ?_
  refine J_callV1 kX5_60 cvX6_firstEndingBehind hP6.1 (c_X6_firstEndingBehind hP6 hn6 hz6 hm (by omega)) rfl rfl rfl rfl rfl dX5_write_25 rfl rfl ?_
  refine j_istore (L' := [(6, _), (5, _), (4, _), (0, _), (1, _), (2, _), (3, _)]) dX5_write_28 rfl rfl ?_
  exact loop (p6.1 7 - febF (endF p6) fr (p6.1 7).toNat).toNat (febF (endF p6) fr (p6.1 7).toNat) (oU p 9 0) _ (by omega) (by omega) ⟨Int.le_refl _, by show (0 : Int) ≤ 128; omega⟩ hP hF hP6 hP0 hs1.symm
